/-! the pool's rules as the reference checks them (my own text) -/
section PKB
variable {f : Nat → Int32} {n : Nat} {E : List (Nat × Nat)} {k mj : Nat}
theorem plI_some {o : Option Nat} (h : (0 : Int32) ≤ plI o) : ∃ p, plI o = nI p ∧ o = some p := by
  cases o with
  | none => exact absurd h (by decide)
  | some p => exact ⟨p, rfl, rfl⟩
theorem plI_none {o : Option Nat} (hb : ∀ p, o = some p → p < 1073741824) (h : ¬ (0 : Int32) ≤ plI o) : o = none := by
  cases o with
  | none => rfl
  | some p => exact absurd (Int32.not_lt.mp (nI_n0 (hb p rfl))) h
theorem tp_is {p : Nat} (h : lk E k = some p) : tp E k = p := by
  unfold tp
  rw [h]
theorem chk_skip (h : tg f E k = 0) : lnkN f E k = 1 ∧ brkN f n E mj k = 0 := by
  constructor
  · unfold lnkN
    rw [if_neg (by omega), if_neg (by omega), if_neg (by omega), if_neg (by omega), if_neg (by omega)]
  · unfold brkN
    rw [if_neg (by omega), if_neg (by omega), if_neg (by omega), if_neg (by omega), if_neg (by omega), if_neg (by omega), if_neg (by omega), if_neg (by omega)]
theorem lnk_15 (ht : tg f E k = 15) (h : ¬ lnkN f E k = 0) : 9 ≤ tg f E (se f E k) ∧ tg f E (se f E k) ≤ 11 → tg f E (se f E (se f E k)) = 12 ∧ tg f E (fi f E (se f E (se f E k))) = 1 ∧ tg f E (se f E (se f E (se f E k))) = 1 := by
  intro h9
  unfold lnkN at h
  rw [if_neg (by omega), if_neg (by omega), if_neg (by omega), if_pos ht, if_neg (by rw [ism_9]; omega)] at h
  exact pair_of (mem_of h).2.2
theorem lnk_in (h : ¬ lnkN f E k = 0) : (tg f E k = 7 ∨ tg f E k = 8 ∨ tg f E k = 16 ∨ tg f E k = 19 ∨ tg f E k = 20 → tg f E (fi f E k) = 1) ∧ (tg f E k = 12 → tg f E (fi f E k) = 1 ∧ tg f E (se f E k) = 1) ∧ (9 ≤ tg f E k ∧ tg f E k ≤ 11 → tg f E (fi f E k) = 7 ∧ tg f E (fi f E (fi f E k)) = 1 ∧ tg f E (se f E k) = 12 ∧ tg f E (fi f E (se f E k)) = 1 ∧ tg f E (se f E (se f E k)) = 1) ∧ (tg f E k = 17 ∨ tg f E k = 18 → tg f E (se f E k) = 12 ∧ tg f E (fi f E (se f E k)) = 1 ∧ tg f E (se f E (se f E k)) = 1) := by
  unfold lnkN at h
  refine ⟨fun h1 => ?_, fun h1 => ?_, fun h1 => ?_, fun h1 => ?_⟩
  · rw [if_pos h1] at h
    split at h
    · assumption
    · exact absurd rfl h
  · rw [if_neg (by omega), if_pos h1] at h
    exact (pair_of h).2
  · rw [if_neg (by omega), if_neg (by omega), if_pos (by omega)] at h
    have h2 := mem_of h
    have h3 := pair_of h2.2.2
    exact ⟨h2.1, h2.2.1, h3⟩
  · rw [if_neg (by omega), if_neg (by omega), if_neg (by omega), if_neg (by omega), if_pos h1] at h
    exact pair_of h
theorem nwt_9 : nwtN f n E k = 0 ↔ ¬ (¬ unqN (tX f n E (fi f E k)) = 0 ∧ (¬ fldN (tX f n E (se f E k)) = 0 ∨ ¬ mthN (tX f n E (se f E k)) = 0)) := by
  unfold nwtN
  split <;> omega
theorem mrf_9 : mrfN f n E k = 0 ↔ (mthN (tX f n E (se f E (se f E k))) = 0 ∨ (¬ angN (tX f n E (fi f E (se f E k))) = 0 ∧ ¬ (tg f E k = 10 ∧ ¬ eqN (tX f n E (fi f E (se f E k))) (ltx 14) = 0 ∧ ¬ nresN (tX f n E (se f E (se f E k))) = 0))) := by
  unfold mrfN
  repeat' split
  all_goals omega
end PKB
set_option maxHeartbeats 1000000 in
theorem rd_handleEntry {g : xe_G} {m0 : Nat} {q : Nat → Nat} {z : Nat × Nat} {I : rI} {R : rR} {M : mi_H} {n : Nat} {f : Nat → Int32} {tx : List (List Nat)} {cN : Nat} {A : Nat → Nat} {N mj : Nat} {E : List (Nat × Nat)} {s1 : Nat} {k : Nat} (hR : RS g m0 q z I R M) (hi51 : I 51 = some 0) (hi52 : I 52 = some (nI N)) (hi53 : I 53 = some (nI mj)) (hi9 : I 9 = some (nI s1)) (hF : FK n f I R) (hY : SYT tx cN A I R) (hP : RPV f n E tx N I R) (hEP : EP f n E) (hN : N < 65536) (hmj : mj < 65536) (hs1 : s1 < tx.length ∧ tx.getD s1 [] = ltx 25) (ht : tg f E k = 15) (hl : ¬ lnkN f E k = 0) : pt (mT g) 212 [.ref m0, .int (nI k)] M (fun v M' => (v = some (.int (nI (hdlN f n E mj (fi f E k) (se f E k)))) ∧ M = M')) := by
  refine pt_in (b := mb_212 g) rfl (fun kf => ?_)
  show pl (mT g) kf (mb_212 g).2 (0, [(0, .ref m0), (1, .int (nI k))], [], M) _
  have hn := hF.1
  obtain ⟨p, hk, hb⟩ := tg_lk (f := f) (E := E) (k := k) (by omega)
  have ha := hP.at hk
  have hep := hEP k p hk
  have h15 := lnk_15 ht hl
  have hfi : fi f E k < 256 := by rw [fi_15 hk (by omega)]; exact by1_lt _ _
  have htl := hY.1.2.2.1
  refine ps_st (S' := (1, [(0, .ref m0), (1, .int (nI k))], [.ref m0], M)) rfl rfl rfl ?_
  refine ps_st (S' := (2, [(0, .ref m0), (1, .int (nI k))], [.ref m0, .ref m0], M)) rfl rfl rfl ?_
  refine pr_ref (j := 21) (S' := (5, [(0, .ref m0), (1, .int (nI k))], [.ref (q 21), .ref m0], M)) rfl hR rfl rfl ?_
  refine ps_st (S' := (6, [(0, .ref m0), (1, .int (nI k))], [.ref m0, .ref (q 21), .ref m0], M)) rfl rfl rfl ?_
  refine pr_int (j := 51) (S' := (9, [(0, .ref m0), (1, .int (nI k))], [.int 0, .ref (q 21), .ref m0], M)) rfl hR rfl hi51 rfl ?_
  refine ps_st (S' := (10, [(0, .ref m0), (1, .int (nI k))], [.int (nI k), .int 0, .ref (q 21), .ref m0], M)) rfl rfl rfl ?_
  refine ps_st (S' := (11, [(0, .ref m0), (1, .int (nI k))], [.int (0 + (nI k)), .ref (q 21), .ref m0], M)) rfl rfl rfl ?_
  rw [show (0 : Int32) + (nI k) = (nI k) from Int32.zero_add _]
  show pl _ _ _ (_, [(0, .ref m0), (1, .int (nI k))], [.int (nI k), .ref (q 21), .ref m0], M) _
  refine pr_ld (a := 21) (j := k) (y := (nI p)) (S' := (12, [(0, .ref m0), (1, .int (nI k))], [.int (nI p), .ref m0], M)) rfl hR rfl (by omega) (fun _ => ha.2.2) rfl (fun i1_11 => ?_)
  refine ps_st (S' := (13, [(0, .ref m0), (1, .int (nI k))], [.int 1, .int (nI p), .ref m0], M)) rfl rfl rfl ?_
  refine ps_st (S' := (14, [(0, .ref m0), (1, .int (nI k))], [.int ((nI p) + 1), .ref m0], M)) rfl rfl rfl ?_
  rw [nI_add1 (p := p) (k := 1) (x := 1) rfl (by omega)]
  show pl _ _ _ (_, [(0, .ref m0), (1, .int (nI k))], [.int (nI (p + 1)), .ref m0], M) _
  refine pl_call (a := [.ref m0, .int (nI (p + 1))]) (rest := []) rfl rfl rfl (rd_u1 (n := n) (f := f) (p := (p + 1)) hR hF (by omega)) (fun v1 M2 q3 => ?_)
  obtain ⟨rfl, rfl⟩ := q3
  show pl _ _ _ (17, [(0, .ref m0), (1, .int (nI k))], [.int (nI (by1 f (p + 1)))], M) _
  have hu_14 := by1_lt f (p + 1)
  refine pl_top (x := (nI (by1 f (p + 1)))) (y := (nI (fi f E k))) (by rw [fi_15 hk (by omega)]) ?_
  refine ps_st (S' := (18, [(2, .int (nI (fi f E k))), (0, .ref m0), (1, .int (nI k))], [], M)) rfl rfl rfl ?_
  refine ps_st (S' := (19, [(2, .int (nI (fi f E k))), (0, .ref m0), (1, .int (nI k))], [.ref m0], M)) rfl rfl rfl ?_
  refine ps_st (S' := (20, [(2, .int (nI (fi f E k))), (0, .ref m0), (1, .int (nI k))], [.int (nI k), .ref m0], M)) rfl rfl rfl ?_
  refine ps_st (S' := (21, [(2, .int (nI (fi f E k))), (0, .ref m0), (1, .int (nI k))], [.int 2, .int (nI k), .ref m0], M)) rfl rfl rfl ?_
  refine pl_call (a := [.ref m0, .int (nI k), .int 2]) (rest := []) rfl rfl rfl (rd_idx2 (n := n) (f := f) (tx := tx) (cN := cN) (A := A) (N := N) (mj := mj) (E := E) (k := k) hR hi51 hi52 hi53 hF hY hP (hEP) (hN) (hmj) (by omega)) (fun v4 M5 q6 => ?_)
  obtain ⟨rfl, rfl⟩ := q6
  show pl _ _ _ (24, [(2, .int (nI (fi f E k))), (0, .ref m0), (1, .int (nI k))], [.int (nI (se f E k))], M) _
  have hix_21 := se_lt f E k
  refine ps_st (S' := (25, [(3, .int (nI (se f E k))), (2, .int (nI (fi f E k))), (0, .ref m0), (1, .int (nI k))], [], M)) rfl rfl rfl ?_
  refine ps_st (S' := (26, [(3, .int (nI (se f E k))), (2, .int (nI (fi f E k))), (0, .ref m0), (1, .int (nI k))], [.ref m0], M)) rfl rfl rfl ?_
  refine ps_st (S' := (27, [(3, .int (nI (se f E k))), (2, .int (nI (fi f E k))), (0, .ref m0), (1, .int (nI k))], [.int (nI (se f E k)), .ref m0], M)) rfl rfl rfl ?_
  refine pl_call (a := [.ref m0, .int (nI (se f E k))]) (rest := []) rfl rfl rfl (rd_tag (n := n) (f := f) (tx := tx) (cN := cN) (A := A) (N := N) (mj := mj) (E := E) (k := (se f E k)) hR hi51 hi52 hi53 hF hY hP (hEP) (hN) (hmj) (se_lt _ _ _)) (fun v7 M8 q9 => ?_)
  obtain ⟨rfl, rfl⟩ := q9
  show pl _ _ _ (30, [(3, .int (nI (se f E k))), (2, .int (nI (fi f E k))), (0, .ref m0), (1, .int (nI k))], [.int (nI (tg f E (se f E k)))], M) _
  have htg_27 := tg_lt f E (se f E k)
  refine ps_st (S' := (32, [(4, .int (nI (tg f E (se f E k)))), (3, .int (nI (se f E k))), (2, .int (nI (fi f E k))), (0, .ref m0), (1, .int (nI k))], [], M)) rfl rfl rfl ?_
  refine ps_st (S' := (33, [(4, .int (nI (tg f E (se f E k)))), (3, .int (nI (se f E k))), (2, .int (nI (fi f E k))), (0, .ref m0), (1, .int (nI k))], [.int (nI (fi f E k))], M)) rfl rfl rfl ?_
  refine ps_st (S' := (34, [(4, .int (nI (tg f E (se f E k)))), (3, .int (nI (se f E k))), (2, .int (nI (fi f E k))), (0, .ref m0), (1, .int (nI k))], [.int 1, .int (nI (fi f E k))], M)) rfl rfl rfl ?_
  refine ps_if2 (S1 := (43, [], [], M)) (S2 := (37, [(4, .int (nI (tg f E (se f E k)))), (3, .int (nI (se f E k))), (2, .int (nI (fi f E k))), (0, .ref m0), (1, .int (nI k))], [], M)) rfl rfl rfl (fun c_34 => ?_) (fun c_34 => ?_)
  · have c_34 : (nI (fi f E k)) < 1 := of_decide_eq_true c_34
    have n_34 : fi f E k < 1 := (lt_nI (p := fi f E k) (n := 1) (Nat.lt_trans (fi_lt _ _ _) (by decide)) (by decide)).mp c_34
    refine ps_st (S' := (44, [], [.int 0], M)) rfl rfl rfl ?_
    exact ps_ret rfl rfl (⟨congrArg (fun x => some (Value.int (nI x))) (show 0 = hdlN f n E mj (fi f E k) (se f E k) from by
        unfold hdlN
        first | ((repeat first | rw [if_pos (by omega)] | rw [if_neg (by omega)]) <;> first | rfl | omega) | ((repeat' split) <;> first | rfl | (exfalso; omega) | omega)), rfl⟩)
  · have c_34 : ¬ ((nI (fi f E k)) < 1) := of_decide_eq_false c_34
    have n_34 : ¬ (fi f E k < 1) := fun h9 => c_34 ((lt_nI (p := fi f E k) (n := 1) (Nat.lt_trans (fi_lt _ _ _) (by decide)) (by decide)).mpr h9)
    refine ps_st (S' := (38, [(4, .int (nI (tg f E (se f E k)))), (3, .int (nI (se f E k))), (2, .int (nI (fi f E k))), (0, .ref m0), (1, .int (nI k))], [.int (nI (fi f E k))], M)) rfl rfl rfl ?_
    refine ps_st (S' := (40, [(4, .int (nI (tg f E (se f E k)))), (3, .int (nI (se f E k))), (2, .int (nI (fi f E k))), (0, .ref m0), (1, .int (nI k))], [.int 9, .int (nI (fi f E k))], M)) rfl rfl rfl ?_
    refine ps_if2 (S1 := (45, [(4, .int (nI (tg f E (se f E k)))), (3, .int (nI (se f E k))), (2, .int (nI (fi f E k))), (0, .ref m0), (1, .int (nI k))], [], M)) (S2 := (43, [], [], M)) rfl rfl rfl (fun c_40 => ?_) (fun c_40 => ?_)
    · have c_40 : (nI (fi f E k)) ≤ 9 := of_decide_eq_true c_40
      have n_40 : fi f E k ≤ 9 := (le_nI (p := fi f E k) (n := 9) (Nat.lt_trans (fi_lt _ _ _) (by decide)) (by decide)).mp c_40
      refine ps_st (S' := (46, [(4, .int (nI (tg f E (se f E k)))), (3, .int (nI (se f E k))), (2, .int (nI (fi f E k))), (0, .ref m0), (1, .int (nI k))], [.int (nI (fi f E k))], M)) rfl rfl rfl ?_
      refine ps_st (S' := (47, [(4, .int (nI (tg f E (se f E k)))), (3, .int (nI (se f E k))), (2, .int (nI (fi f E k))), (0, .ref m0), (1, .int (nI k))], [.int 4, .int (nI (fi f E k))], M)) rfl rfl rfl ?_
      refine ps_if2 (S1 := (63, [(4, .int (nI (tg f E (se f E k)))), (3, .int (nI (se f E k))), (2, .int (nI (fi f E k))), (0, .ref m0), (1, .int (nI k))], [], M)) (S2 := (50, [(4, .int (nI (tg f E (se f E k)))), (3, .int (nI (se f E k))), (2, .int (nI (fi f E k))), (0, .ref m0), (1, .int (nI k))], [], M)) rfl rfl rfl (fun c_47 => ?_) (fun c_47 => ?_)
      · have c_47 : 4 < (nI (fi f E k)) := of_decide_eq_true c_47
        have n_47 : 4 < fi f E k := (lt_nI (p := 4) (n := fi f E k) (by decide) (Nat.lt_trans (fi_lt _ _ _) (by decide))).mp c_47
        refine ps_st (S' := (64, [(4, .int (nI (tg f E (se f E k)))), (3, .int (nI (se f E k))), (2, .int (nI (fi f E k))), (0, .ref m0), (1, .int (nI k))], [.int (nI (fi f E k))], M)) rfl rfl rfl ?_
        refine ps_st (S' := (65, [(4, .int (nI (tg f E (se f E k)))), (3, .int (nI (se f E k))), (2, .int (nI (fi f E k))), (0, .ref m0), (1, .int (nI k))], [.int 5, .int (nI (fi f E k))], M)) rfl rfl rfl ?_
        refine ps_if2 (S1 := (74, [(0, .ref m0), (2, .int (nI (fi f E k))), (3, .int (nI (se f E k))), (4, .int (nI (tg f E (se f E k))))], [], M)) (S2 := (68, [(4, .int (nI (tg f E (se f E k)))), (3, .int (nI (se f E k))), (2, .int (nI (fi f E k))), (0, .ref m0), (1, .int (nI k))], [], M)) rfl rfl rfl (fun c_65 => ?_) (fun c_65 => ?_)
        · have c_65 : (nI (fi f E k)) = 5 := of_decide_eq_true c_65
          have n_65 : fi f E k = 5 := (eq_nI (p := fi f E k) (n := 5) (Nat.lt_trans (fi_lt _ _ _) (by decide)) (by decide)).mp c_65
          refine ps_st (S' := (76, [(0, .ref m0), (2, .int (nI (fi f E k))), (3, .int (nI (se f E k))), (4, .int (nI (tg f E (se f E k))))], [.int (nI (tg f E (se f E k)))], M)) rfl rfl rfl ?_
          refine ps_st (S' := (78, [(0, .ref m0), (2, .int (nI (fi f E k))), (3, .int (nI (se f E k))), (4, .int (nI (tg f E (se f E k))))], [.int 10, .int (nI (tg f E (se f E k)))], M)) rfl rfl rfl ?_
          refine ps_if2 (S1 := (123, [], [], M)) (S2 := (81, [(0, .ref m0), (2, .int (nI (fi f E k))), (3, .int (nI (se f E k))), (4, .int (nI (tg f E (se f E k))))], [], M)) rfl rfl rfl (fun c_78 => ?_) (fun c_78 => ?_)
          · have c_78 : ¬ (nI (tg f E (se f E k))) = 10 := of_decide_eq_true c_78
            have n_78 : ¬ (tg f E (se f E k) = 10) := fun h9 => c_78 ((eq_nI (p := tg f E (se f E k)) (n := 10) (Nat.lt_trans (tg_lt _ _ _) (by decide)) (by decide)).mpr h9)
            refine ps_st (S' := (124, [], [.int 0], M)) rfl rfl rfl ?_
            exact ps_ret rfl rfl (⟨congrArg (fun x => some (Value.int (nI x))) (show 0 = hdlN f n E mj (fi f E k) (se f E k) from by
                unfold hdlN
                first | ((repeat first | rw [if_pos (by omega)] | rw [if_neg (by omega)]) <;> first | rfl | omega) | ((repeat' split) <;> first | rfl | (exfalso; omega) | omega)), rfl⟩)
          · have c_78 : ¬ (¬ (nI (tg f E (se f E k))) = 10) := of_decide_eq_false c_78
            have n_78 : tg f E (se f E k) = 10 := (eq_nI (p := tg f E (se f E k)) (n := 10) (Nat.lt_trans (tg_lt _ _ _) (by decide)) (by decide)).mp (Decidable.not_not.mp c_78)
            refine ps_st (S' := (125, [(0, .ref m0), (2, .int (nI (fi f E k))), (3, .int (nI (se f E k)))], [], M)) rfl rfl rfl ?_
            refine ps_st (S' := (126, [(0, .ref m0), (2, .int (nI (fi f E k))), (3, .int (nI (se f E k)))], [.ref m0], M)) rfl rfl rfl ?_
            refine ps_st (S' := (127, [(0, .ref m0), (2, .int (nI (fi f E k))), (3, .int (nI (se f E k)))], [.ref m0, .ref m0], M)) rfl rfl rfl ?_
            refine ps_st (S' := (128, [(0, .ref m0), (2, .int (nI (fi f E k))), (3, .int (nI (se f E k)))], [.ref m0, .ref m0, .ref m0], M)) rfl rfl rfl ?_
            refine ps_st (S' := (129, [(0, .ref m0), (2, .int (nI (fi f E k))), (3, .int (nI (se f E k)))], [.int (nI (se f E k)), .ref m0, .ref m0, .ref m0], M)) rfl rfl rfl ?_
            refine ps_st (S' := (130, [(0, .ref m0), (2, .int (nI (fi f E k))), (3, .int (nI (se f E k)))], [.int 3, .int (nI (se f E k)), .ref m0, .ref m0, .ref m0], M)) rfl rfl rfl ?_
            refine pl_call (a := [.ref m0, .int (nI (se f E k)), .int 3]) (rest := [.ref m0, .ref m0]) rfl rfl rfl (rd_idx3 (n := n) (f := f) (tx := tx) (cN := cN) (A := A) (N := N) (mj := mj) (E := E) (k := (se f E k)) hR hi51 hi52 hi53 hF hY hP (hEP) (hN) (hmj) (by omega)) (fun v10 M11 q12 => ?_)
            obtain ⟨rfl, rfl⟩ := q12
            show pl _ _ _ (133, [(0, .ref m0), (2, .int (nI (fi f E k))), (3, .int (nI (se f E k)))], [.int (nI (se f E (se f E k))), .ref m0, .ref m0], M) _
            have hix_130 := se_lt f E (se f E k)
            refine ps_st (S' := (134, [(0, .ref m0), (2, .int (nI (fi f E k))), (3, .int (nI (se f E k)))], [.int 1, .int (nI (se f E (se f E k))), .ref m0, .ref m0], M)) rfl rfl rfl ?_
            refine pl_call (a := [.ref m0, .int (nI (se f E (se f E k))), .int 1]) (rest := [.ref m0]) rfl rfl rfl (rd_idx1 (n := n) (f := f) (tx := tx) (cN := cN) (A := A) (N := N) (mj := mj) (E := E) (k := (se f E (se f E k))) hR hi51 hi52 hi53 hF hY hP (hEP) (hN) (hmj) (by omega)) (fun v13 M14 q15 => ?_)
            obtain ⟨rfl, rfl⟩ := q15
            show pl _ _ _ (137, [(0, .ref m0), (2, .int (nI (fi f E k))), (3, .int (nI (se f E k)))], [.int (nI (fi f E (se f E (se f E k)))), .ref m0], M) _
            have hix_134 := fi_lt f E (se f E (se f E k))
            refine pl_call (a := [.ref m0, .int (nI (fi f E (se f E (se f E k))))]) (rest := []) rfl rfl rfl (rd_symOf (n := n) (f := f) (tx := tx) (cN := cN) (A := A) (N := N) (mj := mj) (E := E) (k := (fi f E (se f E (se f E k)))) hR hi51 hi52 hi53 hF hY hP (hEP) (hN) (hmj) (by omega)) (fun v16 M17 q18 => ?_)
            obtain ⟨s19, q137_s, rfl, rfl⟩ := q18
            show pl _ _ _ (140, [(0, .ref m0), (2, .int (nI (fi f E k))), (3, .int (nI (se f E k)))], [.int (nI s19)], M) _
            have hsl_137 := q137_s.1
            have htl_137 := hY.1.2.2.1
            refine ps_st (S' := (142, [(5, .int (nI s19)), (0, .ref m0), (2, .int (nI (fi f E k))), (3, .int (nI (se f E k)))], [], M)) rfl rfl rfl ?_
            refine ps_st (S' := (143, [(5, .int (nI s19)), (0, .ref m0), (2, .int (nI (fi f E k))), (3, .int (nI (se f E k)))], [.int (nI (fi f E k))], M)) rfl rfl rfl ?_
            refine ps_st (S' := (145, [(5, .int (nI s19)), (0, .ref m0), (2, .int (nI (fi f E k))), (3, .int (nI (se f E k)))], [.int 8, .int (nI (fi f E k))], M)) rfl rfl rfl ?_
            refine ps_if2 (S1 := (152, [(5, .int (nI s19)), (0, .ref m0), (2, .int (nI (fi f E k))), (3, .int (nI (se f E k)))], [], M)) (S2 := (148, [(5, .int (nI s19)), (0, .ref m0), (2, .int (nI (fi f E k))), (3, .int (nI (se f E k)))], [], M)) rfl rfl rfl (fun c_145 => ?_) (fun c_145 => ?_)
            rotate_left
            · exact absurd (show ¬ ((nI (fi f E k)) = 8) from fun h9 => absurd ((eq_nI (p := fi f E k) (n := 8) (Nat.lt_trans (fi_lt _ _ _) (by decide)) (by decide)).mp h9) (by omega)) (of_decide_eq_false c_145)
            refine ps_st (S' := (153, [(0, .ref m0), (5, .int (nI s19))], [.int 0], M)) rfl rfl rfl ?_
            have he9 := sym_eq hY q137_s hs1
            rw [lt_eq.1] at he9
            refine ps_st (S' := (155, [(0, .ref m0), (5, .int (nI s19))], [.int (nI s19), .int 0], M)) rfl rfl rfl ?_
            refine ps_st (S' := (156, [(0, .ref m0), (5, .int (nI s19))], [.ref m0, .int (nI s19), .int 0], M)) rfl rfl rfl ?_
            refine pr_int (j := 9) (S' := (159, [(0, .ref m0), (5, .int (nI s19))], [.int (nI s1), .int (nI s19), .int 0], M)) rfl hR rfl hi9 rfl ?_
            refine ps_if2 (S1 := (166, [(0, .ref m0), (5, .int (nI s19))], [.int 0], M)) (S2 := (162, [(0, .ref m0), (5, .int (nI s19))], [.int 0], M)) rfl rfl rfl (fun c_159 => ?_) (fun c_159 => ?_)
            · have c_159 : ¬ (nI s19) = (nI s1) := of_decide_eq_true c_159
              have n_159 : ¬ (s19 = s1) := fun h9 => c_159 ((eq_nI (p := s19) (n := s1) (by omega) (by omega)).mpr h9)
              refine ps_st (S' := (167, [], [.int 0, .int 0], M)) rfl rfl rfl ?_
              refine ps_if2 (S1 := (174, [], [], M)) (S2 := (170, [], [], M)) rfl rfl rfl (fun c_167 => ?_) (fun c_167 => ?_)
              · exact absurd (of_decide_eq_true c_167) (by decide)
              refine ps_st (S' := (171, [], [.int 1], M)) rfl rfl rfl ?_
              refine ps_st (S' := (175, [], [.int 1], M)) rfl rfl rfl ?_
              exact ps_ret rfl rfl (⟨congrArg (fun x => some (Value.int (nI x))) (show 1 = hdlN f n E mj (fi f E k) (se f E k) from by
                  unfold hdlN
                  first | ((repeat first | rw [if_pos (by omega)] | rw [if_neg (by omega)]) <;> first | rfl | omega) | ((repeat' split) <;> first | rfl | (exfalso; omega) | omega)), rfl⟩)
            · have c_159 : ¬ (¬ (nI s19) = (nI s1)) := of_decide_eq_false c_159
              have n_159 : s19 = s1 := (eq_nI (p := s19) (n := s1) (by omega) (by omega)).mp (Decidable.not_not.mp c_159)
              refine ps_st (S' := (163, [(0, .ref m0), (5, .int (nI s19))], [.int 1, .int 0], M)) rfl rfl rfl ?_
              refine ps_st (S' := (167, [], [.int 1, .int 0], M)) rfl rfl rfl ?_
              refine ps_if2 (S1 := (174, [], [], M)) (S2 := (170, [], [], M)) rfl rfl rfl (fun c_167 => ?_) (fun c_167 => ?_)
              rotate_left
              · exact absurd (by decide) (of_decide_eq_false c_167)
              refine ps_st (S' := (175, [], [.int 0], M)) rfl rfl rfl ?_
              exact ps_ret rfl rfl (⟨congrArg (fun x => some (Value.int (nI x))) (show 0 = hdlN f n E mj (fi f E k) (se f E k) from by
                  unfold hdlN
                  first | ((repeat first | rw [if_pos (by omega)] | rw [if_neg (by omega)]) <;> first | rfl | omega) | ((repeat' split) <;> first | rfl | (exfalso; omega) | omega)), rfl⟩)
        · have c_65 : ¬ ((nI (fi f E k)) = 5) := of_decide_eq_false c_65
          have n_65 : ¬ (fi f E k = 5) := fun h9 => c_65 ((eq_nI (p := fi f E k) (n := 5) (Nat.lt_trans (fi_lt _ _ _) (by decide)) (by decide)).mpr h9)
          refine ps_st (S' := (69, [(4, .int (nI (tg f E (se f E k)))), (3, .int (nI (se f E k))), (2, .int (nI (fi f E k))), (0, .ref m0), (1, .int (nI k))], [.int (nI (fi f E k))], M)) rfl rfl rfl ?_
          refine ps_st (S' := (71, [(4, .int (nI (tg f E (se f E k)))), (3, .int (nI (se f E k))), (2, .int (nI (fi f E k))), (0, .ref m0), (1, .int (nI k))], [.int 8, .int (nI (fi f E k))], M)) rfl rfl rfl ?_
          refine ps_if2 (S1 := (84, [(4, .int (nI (tg f E (se f E k)))), (3, .int (nI (se f E k))), (2, .int (nI (fi f E k))), (0, .ref m0), (1, .int (nI k))], [], M)) (S2 := (74, [(0, .ref m0), (2, .int (nI (fi f E k))), (3, .int (nI (se f E k))), (4, .int (nI (tg f E (se f E k))))], [], M)) rfl rfl rfl (fun c_71 => ?_) (fun c_71 => ?_)
          · have c_71 : ¬ (nI (fi f E k)) = 8 := of_decide_eq_true c_71
            have n_71 : ¬ (fi f E k = 8) := fun h9 => c_71 ((eq_nI (p := fi f E k) (n := 8) (Nat.lt_trans (fi_lt _ _ _) (by decide)) (by decide)).mpr h9)
            refine ps_st (S' := (85, [(4, .int (nI (tg f E (se f E k)))), (3, .int (nI (se f E k))), (2, .int (nI (fi f E k))), (0, .ref m0), (1, .int (nI k))], [.int (nI (fi f E k))], M)) rfl rfl rfl ?_
            refine ps_st (S' := (87, [(4, .int (nI (tg f E (se f E k)))), (3, .int (nI (se f E k))), (2, .int (nI (fi f E k))), (0, .ref m0), (1, .int (nI k))], [.int 9, .int (nI (fi f E k))], M)) rfl rfl rfl ?_
            refine ps_if2 (S1 := (100, [(4, .int (nI (tg f E (se f E k)))), (3, .int (nI (se f E k))), (2, .int (nI (fi f E k))), (0, .ref m0), (1, .int (nI k))], [], M)) (S2 := (90, [(4, .int (nI (tg f E (se f E k)))), (3, .int (nI (se f E k))), (2, .int (nI (fi f E k))), (0, .ref m0), (1, .int (nI k))], [], M)) rfl rfl rfl (fun c_87 => ?_) (fun c_87 => ?_)
            · have c_87 : ¬ (nI (fi f E k)) = 9 := of_decide_eq_true c_87
              have n_87 : ¬ (fi f E k = 9) := fun h9 => c_87 ((eq_nI (p := fi f E k) (n := 9) (Nat.lt_trans (fi_lt _ _ _) (by decide)) (by decide)).mpr h9)
              refine ps_st (S' := (102, [(4, .int (nI (tg f E (se f E k)))), (3, .int (nI (se f E k))), (2, .int (nI (fi f E k))), (0, .ref m0), (1, .int (nI k))], [.int (nI (tg f E (se f E k)))], M)) rfl rfl rfl ?_
              refine ps_st (S' := (104, [(4, .int (nI (tg f E (se f E k)))), (3, .int (nI (se f E k))), (2, .int (nI (fi f E k))), (0, .ref m0), (1, .int (nI k))], [.int 10, .int (nI (tg f E (se f E k)))], M)) rfl rfl rfl ?_
              refine ps_if2 (S1 := (125, [(0, .ref m0), (2, .int (nI (fi f E k))), (3, .int (nI (se f E k)))], [], M)) (S2 := (107, [(4, .int (nI (tg f E (se f E k)))), (3, .int (nI (se f E k))), (2, .int (nI (fi f E k))), (0, .ref m0), (1, .int (nI k))], [], M)) rfl rfl rfl (fun c_104 => ?_) (fun c_104 => ?_)
              · have c_104 : (nI (tg f E (se f E k))) = 10 := of_decide_eq_true c_104
                have n_104 : tg f E (se f E k) = 10 := (eq_nI (p := tg f E (se f E k)) (n := 10) (Nat.lt_trans (tg_lt _ _ _) (by decide)) (by decide)).mp c_104
                refine ps_st (S' := (126, [(0, .ref m0), (2, .int (nI (fi f E k))), (3, .int (nI (se f E k)))], [.ref m0], M)) rfl rfl rfl ?_
                refine ps_st (S' := (127, [(0, .ref m0), (2, .int (nI (fi f E k))), (3, .int (nI (se f E k)))], [.ref m0, .ref m0], M)) rfl rfl rfl ?_
                refine ps_st (S' := (128, [(0, .ref m0), (2, .int (nI (fi f E k))), (3, .int (nI (se f E k)))], [.ref m0, .ref m0, .ref m0], M)) rfl rfl rfl ?_
                refine ps_st (S' := (129, [(0, .ref m0), (2, .int (nI (fi f E k))), (3, .int (nI (se f E k)))], [.int (nI (se f E k)), .ref m0, .ref m0, .ref m0], M)) rfl rfl rfl ?_
                refine ps_st (S' := (130, [(0, .ref m0), (2, .int (nI (fi f E k))), (3, .int (nI (se f E k)))], [.int 3, .int (nI (se f E k)), .ref m0, .ref m0, .ref m0], M)) rfl rfl rfl ?_
                refine pl_call (a := [.ref m0, .int (nI (se f E k)), .int 3]) (rest := [.ref m0, .ref m0]) rfl rfl rfl (rd_idx3 (n := n) (f := f) (tx := tx) (cN := cN) (A := A) (N := N) (mj := mj) (E := E) (k := (se f E k)) hR hi51 hi52 hi53 hF hY hP (hEP) (hN) (hmj) (by omega)) (fun v20 M21 q22 => ?_)
                obtain ⟨rfl, rfl⟩ := q22
                show pl _ _ _ (133, [(0, .ref m0), (2, .int (nI (fi f E k))), (3, .int (nI (se f E k)))], [.int (nI (se f E (se f E k))), .ref m0, .ref m0], M) _
                have hix_130 := se_lt f E (se f E k)
                refine ps_st (S' := (134, [(0, .ref m0), (2, .int (nI (fi f E k))), (3, .int (nI (se f E k)))], [.int 1, .int (nI (se f E (se f E k))), .ref m0, .ref m0], M)) rfl rfl rfl ?_
                refine pl_call (a := [.ref m0, .int (nI (se f E (se f E k))), .int 1]) (rest := [.ref m0]) rfl rfl rfl (rd_idx1 (n := n) (f := f) (tx := tx) (cN := cN) (A := A) (N := N) (mj := mj) (E := E) (k := (se f E (se f E k))) hR hi51 hi52 hi53 hF hY hP (hEP) (hN) (hmj) (by omega)) (fun v23 M24 q25 => ?_)
                obtain ⟨rfl, rfl⟩ := q25
                show pl _ _ _ (137, [(0, .ref m0), (2, .int (nI (fi f E k))), (3, .int (nI (se f E k)))], [.int (nI (fi f E (se f E (se f E k)))), .ref m0], M) _
                have hix_134 := fi_lt f E (se f E (se f E k))
                refine pl_call (a := [.ref m0, .int (nI (fi f E (se f E (se f E k))))]) (rest := []) rfl rfl rfl (rd_symOf (n := n) (f := f) (tx := tx) (cN := cN) (A := A) (N := N) (mj := mj) (E := E) (k := (fi f E (se f E (se f E k)))) hR hi51 hi52 hi53 hF hY hP (hEP) (hN) (hmj) (by omega)) (fun v26 M27 q28 => ?_)
                obtain ⟨s29, q137_s, rfl, rfl⟩ := q28
                show pl _ _ _ (140, [(0, .ref m0), (2, .int (nI (fi f E k))), (3, .int (nI (se f E k)))], [.int (nI s29)], M) _
                have hsl_137 := q137_s.1
                have htl_137 := hY.1.2.2.1
                refine ps_st (S' := (142, [(5, .int (nI s29)), (0, .ref m0), (2, .int (nI (fi f E k))), (3, .int (nI (se f E k)))], [], M)) rfl rfl rfl ?_
                refine ps_st (S' := (143, [(5, .int (nI s29)), (0, .ref m0), (2, .int (nI (fi f E k))), (3, .int (nI (se f E k)))], [.int (nI (fi f E k))], M)) rfl rfl rfl ?_
                refine ps_st (S' := (145, [(5, .int (nI s29)), (0, .ref m0), (2, .int (nI (fi f E k))), (3, .int (nI (se f E k)))], [.int 8, .int (nI (fi f E k))], M)) rfl rfl rfl ?_
                refine ps_if2 (S1 := (152, [(5, .int (nI s29)), (0, .ref m0), (2, .int (nI (fi f E k))), (3, .int (nI (se f E k)))], [], M)) (S2 := (148, [(5, .int (nI s29)), (0, .ref m0), (2, .int (nI (fi f E k))), (3, .int (nI (se f E k)))], [], M)) rfl rfl rfl (fun c_145 => ?_) (fun c_145 => ?_)
                rotate_left
                · exact absurd (show ¬ ((nI (fi f E k)) = 8) from fun h9 => absurd ((eq_nI (p := fi f E k) (n := 8) (Nat.lt_trans (fi_lt _ _ _) (by decide)) (by decide)).mp h9) (by omega)) (of_decide_eq_false c_145)
                refine ps_st (S' := (153, [(0, .ref m0), (5, .int (nI s29))], [.int 0], M)) rfl rfl rfl ?_
                have he9 := sym_eq hY q137_s hs1
                rw [lt_eq.1] at he9
                refine ps_st (S' := (155, [(0, .ref m0), (5, .int (nI s29))], [.int (nI s29), .int 0], M)) rfl rfl rfl ?_
                refine ps_st (S' := (156, [(0, .ref m0), (5, .int (nI s29))], [.ref m0, .int (nI s29), .int 0], M)) rfl rfl rfl ?_
                refine pr_int (j := 9) (S' := (159, [(0, .ref m0), (5, .int (nI s29))], [.int (nI s1), .int (nI s29), .int 0], M)) rfl hR rfl hi9 rfl ?_
                refine ps_if2 (S1 := (166, [(0, .ref m0), (5, .int (nI s29))], [.int 0], M)) (S2 := (162, [(0, .ref m0), (5, .int (nI s29))], [.int 0], M)) rfl rfl rfl (fun c_159 => ?_) (fun c_159 => ?_)
                · have c_159 : ¬ (nI s29) = (nI s1) := of_decide_eq_true c_159
                  have n_159 : ¬ (s29 = s1) := fun h9 => c_159 ((eq_nI (p := s29) (n := s1) (by omega) (by omega)).mpr h9)
                  refine ps_st (S' := (167, [], [.int 0, .int 0], M)) rfl rfl rfl ?_
                  refine ps_if2 (S1 := (174, [], [], M)) (S2 := (170, [], [], M)) rfl rfl rfl (fun c_167 => ?_) (fun c_167 => ?_)
                  · exact absurd (of_decide_eq_true c_167) (by decide)
                  refine ps_st (S' := (171, [], [.int 1], M)) rfl rfl rfl ?_
                  refine ps_st (S' := (175, [], [.int 1], M)) rfl rfl rfl ?_
                  exact ps_ret rfl rfl (⟨congrArg (fun x => some (Value.int (nI x))) (show 1 = hdlN f n E mj (fi f E k) (se f E k) from by
                      unfold hdlN
                      first | ((repeat first | rw [if_pos (by omega)] | rw [if_neg (by omega)]) <;> first | rfl | omega) | ((repeat' split) <;> first | rfl | (exfalso; omega) | omega)), rfl⟩)
                · have c_159 : ¬ (¬ (nI s29) = (nI s1)) := of_decide_eq_false c_159
                  have n_159 : s29 = s1 := (eq_nI (p := s29) (n := s1) (by omega) (by omega)).mp (Decidable.not_not.mp c_159)
                  refine ps_st (S' := (163, [(0, .ref m0), (5, .int (nI s29))], [.int 1, .int 0], M)) rfl rfl rfl ?_
                  refine ps_st (S' := (167, [], [.int 1, .int 0], M)) rfl rfl rfl ?_
                  refine ps_if2 (S1 := (174, [], [], M)) (S2 := (170, [], [], M)) rfl rfl rfl (fun c_167 => ?_) (fun c_167 => ?_)
                  rotate_left
                  · exact absurd (by decide) (of_decide_eq_false c_167)
                  refine ps_st (S' := (175, [], [.int 0], M)) rfl rfl rfl ?_
                  exact ps_ret rfl rfl (⟨congrArg (fun x => some (Value.int (nI x))) (show 0 = hdlN f n E mj (fi f E k) (se f E k) from by
                      unfold hdlN
                      first | ((repeat first | rw [if_pos (by omega)] | rw [if_neg (by omega)]) <;> first | rfl | omega) | ((repeat' split) <;> first | rfl | (exfalso; omega) | omega)), rfl⟩)
              · have c_104 : ¬ ((nI (tg f E (se f E k))) = 10) := of_decide_eq_false c_104
                have n_104 : ¬ (tg f E (se f E k) = 10) := fun h9 => c_104 ((eq_nI (p := tg f E (se f E k)) (n := 10) (Nat.lt_trans (tg_lt _ _ _) (by decide)) (by decide)).mpr h9)
                refine ps_st (S' := (109, [(4, .int (nI (tg f E (se f E k)))), (3, .int (nI (se f E k))), (2, .int (nI (fi f E k))), (0, .ref m0), (1, .int (nI k))], [.int (nI (tg f E (se f E k)))], M)) rfl rfl rfl ?_
                refine ps_st (S' := (111, [(4, .int (nI (tg f E (se f E k)))), (3, .int (nI (se f E k))), (2, .int (nI (fi f E k))), (0, .ref m0), (1, .int (nI k))], [.int 11, .int (nI (tg f E (se f E k)))], M)) rfl rfl rfl ?_
                refine ps_if2 (S1 := (123, [], [], M)) (S2 := (114, [(4, .int (nI (tg f E (se f E k)))), (3, .int (nI (se f E k))), (2, .int (nI (fi f E k))), (0, .ref m0), (1, .int (nI k))], [], M)) rfl rfl rfl (fun c_111 => ?_) (fun c_111 => ?_)
                · have c_111 : ¬ (nI (tg f E (se f E k))) = 11 := of_decide_eq_true c_111
                  have n_111 : ¬ (tg f E (se f E k) = 11) := fun h9 => c_111 ((eq_nI (p := tg f E (se f E k)) (n := 11) (Nat.lt_trans (tg_lt _ _ _) (by decide)) (by decide)).mpr h9)
                  refine ps_st (S' := (124, [], [.int 0], M)) rfl rfl rfl ?_
                  exact ps_ret rfl rfl (⟨congrArg (fun x => some (Value.int (nI x))) (show 0 = hdlN f n E mj (fi f E k) (se f E k) from by
                      unfold hdlN
                      first | ((repeat first | rw [if_pos (by omega)] | rw [if_neg (by omega)]) <;> first | rfl | omega) | ((repeat' split) <;> first | rfl | (exfalso; omega) | omega)), rfl⟩)
                · have c_111 : ¬ (¬ (nI (tg f E (se f E k))) = 11) := of_decide_eq_false c_111
                  have n_111 : tg f E (se f E k) = 11 := (eq_nI (p := tg f E (se f E k)) (n := 11) (Nat.lt_trans (tg_lt _ _ _) (by decide)) (by decide)).mp (Decidable.not_not.mp c_111)
                  refine ps_st (S' := (115, [(4, .int (nI (tg f E (se f E k)))), (3, .int (nI (se f E k))), (2, .int (nI (fi f E k))), (0, .ref m0), (1, .int (nI k))], [.ref m0], M)) rfl rfl rfl ?_
                  refine pr_int (j := 53) (S' := (118, [(4, .int (nI (tg f E (se f E k)))), (3, .int (nI (se f E k))), (2, .int (nI (fi f E k))), (0, .ref m0), (1, .int (nI k))], [.int (nI mj)], M)) rfl hR rfl hi53 rfl ?_
                  refine ps_st (S' := (120, [(4, .int (nI (tg f E (se f E k)))), (3, .int (nI (se f E k))), (2, .int (nI (fi f E k))), (0, .ref m0), (1, .int (nI k))], [.int 52, .int (nI mj)], M)) rfl rfl rfl ?_
                  refine ps_if2 (S1 := (125, [(0, .ref m0), (2, .int (nI (fi f E k))), (3, .int (nI (se f E k)))], [], M)) (S2 := (123, [], [], M)) rfl rfl rfl (fun c_120 => ?_) (fun c_120 => ?_)
                  · have c_120 : 52 ≤ (nI mj) := of_decide_eq_true c_120
                    have n_120 : 52 ≤ mj := (le_nI (p := 52) (n := mj) (by decide) (by omega)).mp c_120
                    refine ps_st (S' := (126, [(0, .ref m0), (2, .int (nI (fi f E k))), (3, .int (nI (se f E k)))], [.ref m0], M)) rfl rfl rfl ?_
                    refine ps_st (S' := (127, [(0, .ref m0), (2, .int (nI (fi f E k))), (3, .int (nI (se f E k)))], [.ref m0, .ref m0], M)) rfl rfl rfl ?_
                    refine ps_st (S' := (128, [(0, .ref m0), (2, .int (nI (fi f E k))), (3, .int (nI (se f E k)))], [.ref m0, .ref m0, .ref m0], M)) rfl rfl rfl ?_
                    refine ps_st (S' := (129, [(0, .ref m0), (2, .int (nI (fi f E k))), (3, .int (nI (se f E k)))], [.int (nI (se f E k)), .ref m0, .ref m0, .ref m0], M)) rfl rfl rfl ?_
                    refine ps_st (S' := (130, [(0, .ref m0), (2, .int (nI (fi f E k))), (3, .int (nI (se f E k)))], [.int 3, .int (nI (se f E k)), .ref m0, .ref m0, .ref m0], M)) rfl rfl rfl ?_
                    refine pl_call (a := [.ref m0, .int (nI (se f E k)), .int 3]) (rest := [.ref m0, .ref m0]) rfl rfl rfl (rd_idx3 (n := n) (f := f) (tx := tx) (cN := cN) (A := A) (N := N) (mj := mj) (E := E) (k := (se f E k)) hR hi51 hi52 hi53 hF hY hP (hEP) (hN) (hmj) (by omega)) (fun v30 M31 q32 => ?_)
                    obtain ⟨rfl, rfl⟩ := q32
                    show pl _ _ _ (133, [(0, .ref m0), (2, .int (nI (fi f E k))), (3, .int (nI (se f E k)))], [.int (nI (se f E (se f E k))), .ref m0, .ref m0], M) _
                    have hix_130 := se_lt f E (se f E k)
                    refine ps_st (S' := (134, [(0, .ref m0), (2, .int (nI (fi f E k))), (3, .int (nI (se f E k)))], [.int 1, .int (nI (se f E (se f E k))), .ref m0, .ref m0], M)) rfl rfl rfl ?_
                    refine pl_call (a := [.ref m0, .int (nI (se f E (se f E k))), .int 1]) (rest := [.ref m0]) rfl rfl rfl (rd_idx1 (n := n) (f := f) (tx := tx) (cN := cN) (A := A) (N := N) (mj := mj) (E := E) (k := (se f E (se f E k))) hR hi51 hi52 hi53 hF hY hP (hEP) (hN) (hmj) (by omega)) (fun v33 M34 q35 => ?_)
                    obtain ⟨rfl, rfl⟩ := q35
                    show pl _ _ _ (137, [(0, .ref m0), (2, .int (nI (fi f E k))), (3, .int (nI (se f E k)))], [.int (nI (fi f E (se f E (se f E k)))), .ref m0], M) _
                    have hix_134 := fi_lt f E (se f E (se f E k))
                    refine pl_call (a := [.ref m0, .int (nI (fi f E (se f E (se f E k))))]) (rest := []) rfl rfl rfl (rd_symOf (n := n) (f := f) (tx := tx) (cN := cN) (A := A) (N := N) (mj := mj) (E := E) (k := (fi f E (se f E (se f E k)))) hR hi51 hi52 hi53 hF hY hP (hEP) (hN) (hmj) (by omega)) (fun v36 M37 q38 => ?_)
                    obtain ⟨s39, q137_s, rfl, rfl⟩ := q38
                    show pl _ _ _ (140, [(0, .ref m0), (2, .int (nI (fi f E k))), (3, .int (nI (se f E k)))], [.int (nI s39)], M) _
                    have hsl_137 := q137_s.1
                    have htl_137 := hY.1.2.2.1
                    refine ps_st (S' := (142, [(5, .int (nI s39)), (0, .ref m0), (2, .int (nI (fi f E k))), (3, .int (nI (se f E k)))], [], M)) rfl rfl rfl ?_
                    refine ps_st (S' := (143, [(5, .int (nI s39)), (0, .ref m0), (2, .int (nI (fi f E k))), (3, .int (nI (se f E k)))], [.int (nI (fi f E k))], M)) rfl rfl rfl ?_
                    refine ps_st (S' := (145, [(5, .int (nI s39)), (0, .ref m0), (2, .int (nI (fi f E k))), (3, .int (nI (se f E k)))], [.int 8, .int (nI (fi f E k))], M)) rfl rfl rfl ?_
                    refine ps_if2 (S1 := (152, [(5, .int (nI s39)), (0, .ref m0), (2, .int (nI (fi f E k))), (3, .int (nI (se f E k)))], [], M)) (S2 := (148, [(5, .int (nI s39)), (0, .ref m0), (2, .int (nI (fi f E k))), (3, .int (nI (se f E k)))], [], M)) rfl rfl rfl (fun c_145 => ?_) (fun c_145 => ?_)
                    rotate_left
                    · exact absurd (show ¬ ((nI (fi f E k)) = 8) from fun h9 => absurd ((eq_nI (p := fi f E k) (n := 8) (Nat.lt_trans (fi_lt _ _ _) (by decide)) (by decide)).mp h9) (by omega)) (of_decide_eq_false c_145)
                    refine ps_st (S' := (153, [(0, .ref m0), (5, .int (nI s39))], [.int 0], M)) rfl rfl rfl ?_
                    have he9 := sym_eq hY q137_s hs1
                    rw [lt_eq.1] at he9
                    refine ps_st (S' := (155, [(0, .ref m0), (5, .int (nI s39))], [.int (nI s39), .int 0], M)) rfl rfl rfl ?_
                    refine ps_st (S' := (156, [(0, .ref m0), (5, .int (nI s39))], [.ref m0, .int (nI s39), .int 0], M)) rfl rfl rfl ?_
                    refine pr_int (j := 9) (S' := (159, [(0, .ref m0), (5, .int (nI s39))], [.int (nI s1), .int (nI s39), .int 0], M)) rfl hR rfl hi9 rfl ?_
                    refine ps_if2 (S1 := (166, [(0, .ref m0), (5, .int (nI s39))], [.int 0], M)) (S2 := (162, [(0, .ref m0), (5, .int (nI s39))], [.int 0], M)) rfl rfl rfl (fun c_159 => ?_) (fun c_159 => ?_)
                    · have c_159 : ¬ (nI s39) = (nI s1) := of_decide_eq_true c_159
                      have n_159 : ¬ (s39 = s1) := fun h9 => c_159 ((eq_nI (p := s39) (n := s1) (by omega) (by omega)).mpr h9)
                      refine ps_st (S' := (167, [], [.int 0, .int 0], M)) rfl rfl rfl ?_
                      refine ps_if2 (S1 := (174, [], [], M)) (S2 := (170, [], [], M)) rfl rfl rfl (fun c_167 => ?_) (fun c_167 => ?_)
                      · exact absurd (of_decide_eq_true c_167) (by decide)
                      refine ps_st (S' := (171, [], [.int 1], M)) rfl rfl rfl ?_
                      refine ps_st (S' := (175, [], [.int 1], M)) rfl rfl rfl ?_
                      exact ps_ret rfl rfl (⟨congrArg (fun x => some (Value.int (nI x))) (show 1 = hdlN f n E mj (fi f E k) (se f E k) from by
                          unfold hdlN
                          first | ((repeat first | rw [if_pos (by omega)] | rw [if_neg (by omega)]) <;> first | rfl | omega) | ((repeat' split) <;> first | rfl | (exfalso; omega) | omega)), rfl⟩)
                    · have c_159 : ¬ (¬ (nI s39) = (nI s1)) := of_decide_eq_false c_159
                      have n_159 : s39 = s1 := (eq_nI (p := s39) (n := s1) (by omega) (by omega)).mp (Decidable.not_not.mp c_159)
                      refine ps_st (S' := (163, [(0, .ref m0), (5, .int (nI s39))], [.int 1, .int 0], M)) rfl rfl rfl ?_
                      refine ps_st (S' := (167, [], [.int 1, .int 0], M)) rfl rfl rfl ?_
                      refine ps_if2 (S1 := (174, [], [], M)) (S2 := (170, [], [], M)) rfl rfl rfl (fun c_167 => ?_) (fun c_167 => ?_)
                      rotate_left
                      · exact absurd (by decide) (of_decide_eq_false c_167)
                      refine ps_st (S' := (175, [], [.int 0], M)) rfl rfl rfl ?_
                      exact ps_ret rfl rfl (⟨congrArg (fun x => some (Value.int (nI x))) (show 0 = hdlN f n E mj (fi f E k) (se f E k) from by
                          unfold hdlN
                          first | ((repeat first | rw [if_pos (by omega)] | rw [if_neg (by omega)]) <;> first | rfl | omega) | ((repeat' split) <;> first | rfl | (exfalso; omega) | omega)), rfl⟩)
                  · have c_120 : ¬ (52 ≤ (nI mj)) := of_decide_eq_false c_120
                    have n_120 : ¬ (52 ≤ mj) := fun h9 => c_120 ((le_nI (p := 52) (n := mj) (by decide) (by omega)).mpr h9)
                    refine ps_st (S' := (124, [], [.int 0], M)) rfl rfl rfl ?_
                    exact ps_ret rfl rfl (⟨congrArg (fun x => some (Value.int (nI x))) (show 0 = hdlN f n E mj (fi f E k) (se f E k) from by
                        unfold hdlN
                        first | ((repeat first | rw [if_pos (by omega)] | rw [if_neg (by omega)]) <;> first | rfl | omega) | ((repeat' split) <;> first | rfl | (exfalso; omega) | omega)), rfl⟩)
            · have c_87 : ¬ (¬ (nI (fi f E k)) = 9) := of_decide_eq_false c_87
              have n_87 : fi f E k = 9 := (eq_nI (p := fi f E k) (n := 9) (Nat.lt_trans (fi_lt _ _ _) (by decide)) (by decide)).mp (Decidable.not_not.mp c_87)
              refine ps_st (S' := (92, [(4, .int (nI (tg f E (se f E k)))), (3, .int (nI (se f E k))), (2, .int (nI (fi f E k))), (0, .ref m0), (1, .int (nI k))], [.int (nI (tg f E (se f E k)))], M)) rfl rfl rfl ?_
              refine ps_st (S' := (94, [(4, .int (nI (tg f E (se f E k)))), (3, .int (nI (se f E k))), (2, .int (nI (fi f E k))), (0, .ref m0), (1, .int (nI k))], [.int 11, .int (nI (tg f E (se f E k)))], M)) rfl rfl rfl ?_
              refine ps_if2 (S1 := (123, [], [], M)) (S2 := (97, [(4, .int (nI (tg f E (se f E k)))), (3, .int (nI (se f E k))), (2, .int (nI (fi f E k))), (0, .ref m0), (1, .int (nI k))], [], M)) rfl rfl rfl (fun c_94 => ?_) (fun c_94 => ?_)
              · have c_94 : ¬ (nI (tg f E (se f E k))) = 11 := of_decide_eq_true c_94
                have n_94 : ¬ (tg f E (se f E k) = 11) := fun h9 => c_94 ((eq_nI (p := tg f E (se f E k)) (n := 11) (Nat.lt_trans (tg_lt _ _ _) (by decide)) (by decide)).mpr h9)
                refine ps_st (S' := (124, [], [.int 0], M)) rfl rfl rfl ?_
                exact ps_ret rfl rfl (⟨congrArg (fun x => some (Value.int (nI x))) (show 0 = hdlN f n E mj (fi f E k) (se f E k) from by
                    unfold hdlN
                    first | ((repeat first | rw [if_pos (by omega)] | rw [if_neg (by omega)]) <;> first | rfl | omega) | ((repeat' split) <;> first | rfl | (exfalso; omega) | omega)), rfl⟩)
              · have c_94 : ¬ (¬ (nI (tg f E (se f E k))) = 11) := of_decide_eq_false c_94
                have n_94 : tg f E (se f E k) = 11 := (eq_nI (p := tg f E (se f E k)) (n := 11) (Nat.lt_trans (tg_lt _ _ _) (by decide)) (by decide)).mp (Decidable.not_not.mp c_94)
                refine ps_st (S' := (125, [(0, .ref m0), (2, .int (nI (fi f E k))), (3, .int (nI (se f E k)))], [], M)) rfl rfl rfl ?_
                refine ps_st (S' := (126, [(0, .ref m0), (2, .int (nI (fi f E k))), (3, .int (nI (se f E k)))], [.ref m0], M)) rfl rfl rfl ?_
                refine ps_st (S' := (127, [(0, .ref m0), (2, .int (nI (fi f E k))), (3, .int (nI (se f E k)))], [.ref m0, .ref m0], M)) rfl rfl rfl ?_
                refine ps_st (S' := (128, [(0, .ref m0), (2, .int (nI (fi f E k))), (3, .int (nI (se f E k)))], [.ref m0, .ref m0, .ref m0], M)) rfl rfl rfl ?_
                refine ps_st (S' := (129, [(0, .ref m0), (2, .int (nI (fi f E k))), (3, .int (nI (se f E k)))], [.int (nI (se f E k)), .ref m0, .ref m0, .ref m0], M)) rfl rfl rfl ?_
                refine ps_st (S' := (130, [(0, .ref m0), (2, .int (nI (fi f E k))), (3, .int (nI (se f E k)))], [.int 3, .int (nI (se f E k)), .ref m0, .ref m0, .ref m0], M)) rfl rfl rfl ?_
                refine pl_call (a := [.ref m0, .int (nI (se f E k)), .int 3]) (rest := [.ref m0, .ref m0]) rfl rfl rfl (rd_idx3 (n := n) (f := f) (tx := tx) (cN := cN) (A := A) (N := N) (mj := mj) (E := E) (k := (se f E k)) hR hi51 hi52 hi53 hF hY hP (hEP) (hN) (hmj) (by omega)) (fun v40 M41 q42 => ?_)
                obtain ⟨rfl, rfl⟩ := q42
                show pl _ _ _ (133, [(0, .ref m0), (2, .int (nI (fi f E k))), (3, .int (nI (se f E k)))], [.int (nI (se f E (se f E k))), .ref m0, .ref m0], M) _
                have hix_130 := se_lt f E (se f E k)
                refine ps_st (S' := (134, [(0, .ref m0), (2, .int (nI (fi f E k))), (3, .int (nI (se f E k)))], [.int 1, .int (nI (se f E (se f E k))), .ref m0, .ref m0], M)) rfl rfl rfl ?_
                refine pl_call (a := [.ref m0, .int (nI (se f E (se f E k))), .int 1]) (rest := [.ref m0]) rfl rfl rfl (rd_idx1 (n := n) (f := f) (tx := tx) (cN := cN) (A := A) (N := N) (mj := mj) (E := E) (k := (se f E (se f E k))) hR hi51 hi52 hi53 hF hY hP (hEP) (hN) (hmj) (by omega)) (fun v43 M44 q45 => ?_)
                obtain ⟨rfl, rfl⟩ := q45
                show pl _ _ _ (137, [(0, .ref m0), (2, .int (nI (fi f E k))), (3, .int (nI (se f E k)))], [.int (nI (fi f E (se f E (se f E k)))), .ref m0], M) _
                have hix_134 := fi_lt f E (se f E (se f E k))
                refine pl_call (a := [.ref m0, .int (nI (fi f E (se f E (se f E k))))]) (rest := []) rfl rfl rfl (rd_symOf (n := n) (f := f) (tx := tx) (cN := cN) (A := A) (N := N) (mj := mj) (E := E) (k := (fi f E (se f E (se f E k)))) hR hi51 hi52 hi53 hF hY hP (hEP) (hN) (hmj) (by omega)) (fun v46 M47 q48 => ?_)
                obtain ⟨s49, q137_s, rfl, rfl⟩ := q48
                show pl _ _ _ (140, [(0, .ref m0), (2, .int (nI (fi f E k))), (3, .int (nI (se f E k)))], [.int (nI s49)], M) _
                have hsl_137 := q137_s.1
                have htl_137 := hY.1.2.2.1
                refine ps_st (S' := (142, [(5, .int (nI s49)), (0, .ref m0), (2, .int (nI (fi f E k))), (3, .int (nI (se f E k)))], [], M)) rfl rfl rfl ?_
                refine ps_st (S' := (143, [(5, .int (nI s49)), (0, .ref m0), (2, .int (nI (fi f E k))), (3, .int (nI (se f E k)))], [.int (nI (fi f E k))], M)) rfl rfl rfl ?_
                refine ps_st (S' := (145, [(5, .int (nI s49)), (0, .ref m0), (2, .int (nI (fi f E k))), (3, .int (nI (se f E k)))], [.int 8, .int (nI (fi f E k))], M)) rfl rfl rfl ?_
                refine ps_if2 (S1 := (152, [(5, .int (nI s49)), (0, .ref m0), (2, .int (nI (fi f E k))), (3, .int (nI (se f E k)))], [], M)) (S2 := (148, [(5, .int (nI s49)), (0, .ref m0), (2, .int (nI (fi f E k))), (3, .int (nI (se f E k)))], [], M)) rfl rfl rfl (fun c_145 => ?_) (fun c_145 => ?_)
                rotate_left
                · exact absurd (show ¬ ((nI (fi f E k)) = 8) from fun h9 => absurd ((eq_nI (p := fi f E k) (n := 8) (Nat.lt_trans (fi_lt _ _ _) (by decide)) (by decide)).mp h9) (by omega)) (of_decide_eq_false c_145)
                refine ps_st (S' := (153, [(0, .ref m0), (5, .int (nI s49))], [.int 0], M)) rfl rfl rfl ?_
                have he9 := sym_eq hY q137_s hs1
                rw [lt_eq.1] at he9
                refine ps_st (S' := (155, [(0, .ref m0), (5, .int (nI s49))], [.int (nI s49), .int 0], M)) rfl rfl rfl ?_
                refine ps_st (S' := (156, [(0, .ref m0), (5, .int (nI s49))], [.ref m0, .int (nI s49), .int 0], M)) rfl rfl rfl ?_
                refine pr_int (j := 9) (S' := (159, [(0, .ref m0), (5, .int (nI s49))], [.int (nI s1), .int (nI s49), .int 0], M)) rfl hR rfl hi9 rfl ?_
                refine ps_if2 (S1 := (166, [(0, .ref m0), (5, .int (nI s49))], [.int 0], M)) (S2 := (162, [(0, .ref m0), (5, .int (nI s49))], [.int 0], M)) rfl rfl rfl (fun c_159 => ?_) (fun c_159 => ?_)
                · have c_159 : ¬ (nI s49) = (nI s1) := of_decide_eq_true c_159
                  have n_159 : ¬ (s49 = s1) := fun h9 => c_159 ((eq_nI (p := s49) (n := s1) (by omega) (by omega)).mpr h9)
                  refine ps_st (S' := (167, [], [.int 0, .int 0], M)) rfl rfl rfl ?_
                  refine ps_if2 (S1 := (174, [], [], M)) (S2 := (170, [], [], M)) rfl rfl rfl (fun c_167 => ?_) (fun c_167 => ?_)
                  · exact absurd (of_decide_eq_true c_167) (by decide)
                  refine ps_st (S' := (171, [], [.int 1], M)) rfl rfl rfl ?_
                  refine ps_st (S' := (175, [], [.int 1], M)) rfl rfl rfl ?_
                  exact ps_ret rfl rfl (⟨congrArg (fun x => some (Value.int (nI x))) (show 1 = hdlN f n E mj (fi f E k) (se f E k) from by
                      unfold hdlN
                      first | ((repeat first | rw [if_pos (by omega)] | rw [if_neg (by omega)]) <;> first | rfl | omega) | ((repeat' split) <;> first | rfl | (exfalso; omega) | omega)), rfl⟩)
                · have c_159 : ¬ (¬ (nI s49) = (nI s1)) := of_decide_eq_false c_159
                  have n_159 : s49 = s1 := (eq_nI (p := s49) (n := s1) (by omega) (by omega)).mp (Decidable.not_not.mp c_159)
                  refine ps_st (S' := (163, [(0, .ref m0), (5, .int (nI s49))], [.int 1, .int 0], M)) rfl rfl rfl ?_
                  refine ps_st (S' := (167, [], [.int 1, .int 0], M)) rfl rfl rfl ?_
                  refine ps_if2 (S1 := (174, [], [], M)) (S2 := (170, [], [], M)) rfl rfl rfl (fun c_167 => ?_) (fun c_167 => ?_)
                  rotate_left
                  · exact absurd (by decide) (of_decide_eq_false c_167)
                  refine ps_st (S' := (175, [], [.int 0], M)) rfl rfl rfl ?_
                  exact ps_ret rfl rfl (⟨congrArg (fun x => some (Value.int (nI x))) (show 0 = hdlN f n E mj (fi f E k) (se f E k) from by
                      unfold hdlN
                      first | ((repeat first | rw [if_pos (by omega)] | rw [if_neg (by omega)]) <;> first | rfl | omega) | ((repeat' split) <;> first | rfl | (exfalso; omega) | omega)), rfl⟩)
          · have c_71 : ¬ (¬ (nI (fi f E k)) = 8) := of_decide_eq_false c_71
            have n_71 : fi f E k = 8 := (eq_nI (p := fi f E k) (n := 8) (Nat.lt_trans (fi_lt _ _ _) (by decide)) (by decide)).mp (Decidable.not_not.mp c_71)
            refine ps_st (S' := (76, [(0, .ref m0), (2, .int (nI (fi f E k))), (3, .int (nI (se f E k))), (4, .int (nI (tg f E (se f E k))))], [.int (nI (tg f E (se f E k)))], M)) rfl rfl rfl ?_
            refine ps_st (S' := (78, [(0, .ref m0), (2, .int (nI (fi f E k))), (3, .int (nI (se f E k))), (4, .int (nI (tg f E (se f E k))))], [.int 10, .int (nI (tg f E (se f E k)))], M)) rfl rfl rfl ?_
            refine ps_if2 (S1 := (123, [], [], M)) (S2 := (81, [(0, .ref m0), (2, .int (nI (fi f E k))), (3, .int (nI (se f E k))), (4, .int (nI (tg f E (se f E k))))], [], M)) rfl rfl rfl (fun c_78 => ?_) (fun c_78 => ?_)
            · have c_78 : ¬ (nI (tg f E (se f E k))) = 10 := of_decide_eq_true c_78
              have n_78 : ¬ (tg f E (se f E k) = 10) := fun h9 => c_78 ((eq_nI (p := tg f E (se f E k)) (n := 10) (Nat.lt_trans (tg_lt _ _ _) (by decide)) (by decide)).mpr h9)
              refine ps_st (S' := (124, [], [.int 0], M)) rfl rfl rfl ?_
              exact ps_ret rfl rfl (⟨congrArg (fun x => some (Value.int (nI x))) (show 0 = hdlN f n E mj (fi f E k) (se f E k) from by
                  unfold hdlN
                  first | ((repeat first | rw [if_pos (by omega)] | rw [if_neg (by omega)]) <;> first | rfl | omega) | ((repeat' split) <;> first | rfl | (exfalso; omega) | omega)), rfl⟩)
            · have c_78 : ¬ (¬ (nI (tg f E (se f E k))) = 10) := of_decide_eq_false c_78
              have n_78 : tg f E (se f E k) = 10 := (eq_nI (p := tg f E (se f E k)) (n := 10) (Nat.lt_trans (tg_lt _ _ _) (by decide)) (by decide)).mp (Decidable.not_not.mp c_78)
              refine ps_st (S' := (125, [(0, .ref m0), (2, .int (nI (fi f E k))), (3, .int (nI (se f E k)))], [], M)) rfl rfl rfl ?_
              refine ps_st (S' := (126, [(0, .ref m0), (2, .int (nI (fi f E k))), (3, .int (nI (se f E k)))], [.ref m0], M)) rfl rfl rfl ?_
              refine ps_st (S' := (127, [(0, .ref m0), (2, .int (nI (fi f E k))), (3, .int (nI (se f E k)))], [.ref m0, .ref m0], M)) rfl rfl rfl ?_
              refine ps_st (S' := (128, [(0, .ref m0), (2, .int (nI (fi f E k))), (3, .int (nI (se f E k)))], [.ref m0, .ref m0, .ref m0], M)) rfl rfl rfl ?_
              refine ps_st (S' := (129, [(0, .ref m0), (2, .int (nI (fi f E k))), (3, .int (nI (se f E k)))], [.int (nI (se f E k)), .ref m0, .ref m0, .ref m0], M)) rfl rfl rfl ?_
              refine ps_st (S' := (130, [(0, .ref m0), (2, .int (nI (fi f E k))), (3, .int (nI (se f E k)))], [.int 3, .int (nI (se f E k)), .ref m0, .ref m0, .ref m0], M)) rfl rfl rfl ?_
              refine pl_call (a := [.ref m0, .int (nI (se f E k)), .int 3]) (rest := [.ref m0, .ref m0]) rfl rfl rfl (rd_idx3 (n := n) (f := f) (tx := tx) (cN := cN) (A := A) (N := N) (mj := mj) (E := E) (k := (se f E k)) hR hi51 hi52 hi53 hF hY hP (hEP) (hN) (hmj) (by omega)) (fun v50 M51 q52 => ?_)
              obtain ⟨rfl, rfl⟩ := q52
              show pl _ _ _ (133, [(0, .ref m0), (2, .int (nI (fi f E k))), (3, .int (nI (se f E k)))], [.int (nI (se f E (se f E k))), .ref m0, .ref m0], M) _
              have hix_130 := se_lt f E (se f E k)
              refine ps_st (S' := (134, [(0, .ref m0), (2, .int (nI (fi f E k))), (3, .int (nI (se f E k)))], [.int 1, .int (nI (se f E (se f E k))), .ref m0, .ref m0], M)) rfl rfl rfl ?_
              refine pl_call (a := [.ref m0, .int (nI (se f E (se f E k))), .int 1]) (rest := [.ref m0]) rfl rfl rfl (rd_idx1 (n := n) (f := f) (tx := tx) (cN := cN) (A := A) (N := N) (mj := mj) (E := E) (k := (se f E (se f E k))) hR hi51 hi52 hi53 hF hY hP (hEP) (hN) (hmj) (by omega)) (fun v53 M54 q55 => ?_)
              obtain ⟨rfl, rfl⟩ := q55
              show pl _ _ _ (137, [(0, .ref m0), (2, .int (nI (fi f E k))), (3, .int (nI (se f E k)))], [.int (nI (fi f E (se f E (se f E k)))), .ref m0], M) _
              have hix_134 := fi_lt f E (se f E (se f E k))
              refine pl_call (a := [.ref m0, .int (nI (fi f E (se f E (se f E k))))]) (rest := []) rfl rfl rfl (rd_symOf (n := n) (f := f) (tx := tx) (cN := cN) (A := A) (N := N) (mj := mj) (E := E) (k := (fi f E (se f E (se f E k)))) hR hi51 hi52 hi53 hF hY hP (hEP) (hN) (hmj) (by omega)) (fun v56 M57 q58 => ?_)
              obtain ⟨s59, q137_s, rfl, rfl⟩ := q58
              show pl _ _ _ (140, [(0, .ref m0), (2, .int (nI (fi f E k))), (3, .int (nI (se f E k)))], [.int (nI s59)], M) _
              have hsl_137 := q137_s.1
              have htl_137 := hY.1.2.2.1
              refine ps_st (S' := (142, [(5, .int (nI s59)), (0, .ref m0), (2, .int (nI (fi f E k))), (3, .int (nI (se f E k)))], [], M)) rfl rfl rfl ?_
              refine ps_st (S' := (143, [(5, .int (nI s59)), (0, .ref m0), (2, .int (nI (fi f E k))), (3, .int (nI (se f E k)))], [.int (nI (fi f E k))], M)) rfl rfl rfl ?_
              refine ps_st (S' := (145, [(5, .int (nI s59)), (0, .ref m0), (2, .int (nI (fi f E k))), (3, .int (nI (se f E k)))], [.int 8, .int (nI (fi f E k))], M)) rfl rfl rfl ?_
              refine ps_if2 (S1 := (152, [(5, .int (nI s59)), (0, .ref m0), (2, .int (nI (fi f E k))), (3, .int (nI (se f E k)))], [], M)) (S2 := (148, [(5, .int (nI s59)), (0, .ref m0), (2, .int (nI (fi f E k))), (3, .int (nI (se f E k)))], [], M)) rfl rfl rfl (fun c_145 => ?_) (fun c_145 => ?_)
              · exact absurd (of_decide_eq_true c_145) (fun h9 => h9 ((eq_nI (p := fi f E k) (n := 8) (Nat.lt_trans (fi_lt _ _ _) (by decide)) (by decide)).mpr (by omega)))
              refine ps_st (S' := (149, [(5, .int (nI s59)), (0, .ref m0), (2, .int (nI (fi f E k))), (3, .int (nI (se f E k)))], [.int 1], M)) rfl rfl rfl ?_
              refine ps_st (S' := (153, [(0, .ref m0), (5, .int (nI s59))], [.int 1], M)) rfl rfl rfl ?_
              have he9 := sym_eq hY q137_s hs1
              rw [lt_eq.1] at he9
              refine ps_st (S' := (155, [(0, .ref m0), (5, .int (nI s59))], [.int (nI s59), .int 1], M)) rfl rfl rfl ?_
              refine ps_st (S' := (156, [(0, .ref m0), (5, .int (nI s59))], [.ref m0, .int (nI s59), .int 1], M)) rfl rfl rfl ?_
              refine pr_int (j := 9) (S' := (159, [(0, .ref m0), (5, .int (nI s59))], [.int (nI s1), .int (nI s59), .int 1], M)) rfl hR rfl hi9 rfl ?_
              refine ps_if2 (S1 := (166, [(0, .ref m0), (5, .int (nI s59))], [.int 1], M)) (S2 := (162, [(0, .ref m0), (5, .int (nI s59))], [.int 1], M)) rfl rfl rfl (fun c_159 => ?_) (fun c_159 => ?_)
              · have c_159 : ¬ (nI s59) = (nI s1) := of_decide_eq_true c_159
                have n_159 : ¬ (s59 = s1) := fun h9 => c_159 ((eq_nI (p := s59) (n := s1) (by omega) (by omega)).mpr h9)
                refine ps_st (S' := (167, [], [.int 0, .int 1], M)) rfl rfl rfl ?_
                refine ps_if2 (S1 := (174, [], [], M)) (S2 := (170, [], [], M)) rfl rfl rfl (fun c_167 => ?_) (fun c_167 => ?_)
                rotate_left
                · exact absurd (by decide) (of_decide_eq_false c_167)
                refine ps_st (S' := (175, [], [.int 0], M)) rfl rfl rfl ?_
                exact ps_ret rfl rfl (⟨congrArg (fun x => some (Value.int (nI x))) (show 0 = hdlN f n E mj (fi f E k) (se f E k) from by
                    unfold hdlN
                    first | ((repeat first | rw [if_pos (by omega)] | rw [if_neg (by omega)]) <;> first | rfl | omega) | ((repeat' split) <;> first | rfl | (exfalso; omega) | omega)), rfl⟩)
              · have c_159 : ¬ (¬ (nI s59) = (nI s1)) := of_decide_eq_false c_159
                have n_159 : s59 = s1 := (eq_nI (p := s59) (n := s1) (by omega) (by omega)).mp (Decidable.not_not.mp c_159)
                refine ps_st (S' := (163, [(0, .ref m0), (5, .int (nI s59))], [.int 1, .int 1], M)) rfl rfl rfl ?_
                refine ps_st (S' := (167, [], [.int 1, .int 1], M)) rfl rfl rfl ?_
                refine ps_if2 (S1 := (174, [], [], M)) (S2 := (170, [], [], M)) rfl rfl rfl (fun c_167 => ?_) (fun c_167 => ?_)
                · exact absurd (of_decide_eq_true c_167) (by decide)
                refine ps_st (S' := (171, [], [.int 1], M)) rfl rfl rfl ?_
                refine ps_st (S' := (175, [], [.int 1], M)) rfl rfl rfl ?_
                exact ps_ret rfl rfl (⟨congrArg (fun x => some (Value.int (nI x))) (show 1 = hdlN f n E mj (fi f E k) (se f E k) from by
                    unfold hdlN
                    first | ((repeat first | rw [if_pos (by omega)] | rw [if_neg (by omega)]) <;> first | rfl | omega) | ((repeat' split) <;> first | rfl | (exfalso; omega) | omega)), rfl⟩)
      · have c_47 : ¬ (4 < (nI (fi f E k))) := of_decide_eq_false c_47
        have n_47 : ¬ (4 < fi f E k) := fun h9 => c_47 ((lt_nI (p := 4) (n := fi f E k) (by decide) (Nat.lt_trans (fi_lt _ _ _) (by decide))).mpr h9)
        refine ps_st (S' := (52, [(4, .int (nI (tg f E (se f E k)))), (3, .int (nI (se f E k))), (2, .int (nI (fi f E k))), (0, .ref m0), (1, .int (nI k))], [.int (nI (tg f E (se f E k)))], M)) rfl rfl rfl ?_
        refine ps_st (S' := (54, [(4, .int (nI (tg f E (se f E k)))), (3, .int (nI (se f E k))), (2, .int (nI (fi f E k))), (0, .ref m0), (1, .int (nI k))], [.int 9, .int (nI (tg f E (se f E k)))], M)) rfl rfl rfl ?_
        refine ps_if2 (S1 := (61, [(4, .int (nI (tg f E (se f E k)))), (3, .int (nI (se f E k))), (2, .int (nI (fi f E k))), (0, .ref m0), (1, .int (nI k))], [], M)) (S2 := (57, [(4, .int (nI (tg f E (se f E k)))), (3, .int (nI (se f E k))), (2, .int (nI (fi f E k))), (0, .ref m0), (1, .int (nI k))], [], M)) rfl rfl rfl (fun c_54 => ?_) (fun c_54 => ?_)
        · have c_54 : ¬ (nI (tg f E (se f E k))) = 9 := of_decide_eq_true c_54
          have n_54 : ¬ (tg f E (se f E k) = 9) := fun h9 => c_54 ((eq_nI (p := tg f E (se f E k)) (n := 9) (Nat.lt_trans (tg_lt _ _ _) (by decide)) (by decide)).mpr h9)
          refine ps_st (S' := (62, [], [.int 0], M)) rfl rfl rfl ?_
          exact ps_ret rfl rfl (⟨congrArg (fun x => some (Value.int (nI x))) (show 0 = hdlN f n E mj (fi f E k) (se f E k) from by
              unfold hdlN
              first | ((repeat first | rw [if_pos (by omega)] | rw [if_neg (by omega)]) <;> first | rfl | omega) | ((repeat' split) <;> first | rfl | (exfalso; omega) | omega)), rfl⟩)
        · have c_54 : ¬ (¬ (nI (tg f E (se f E k))) = 9) := of_decide_eq_false c_54
          have n_54 : tg f E (se f E k) = 9 := (eq_nI (p := tg f E (se f E k)) (n := 9) (Nat.lt_trans (tg_lt _ _ _) (by decide)) (by decide)).mp (Decidable.not_not.mp c_54)
          refine ps_st (S' := (58, [(4, .int (nI (tg f E (se f E k)))), (3, .int (nI (se f E k))), (2, .int (nI (fi f E k))), (0, .ref m0), (1, .int (nI k))], [.int 1], M)) rfl rfl rfl ?_
          refine ps_st (S' := (62, [], [.int 1], M)) rfl rfl rfl ?_
          exact ps_ret rfl rfl (⟨congrArg (fun x => some (Value.int (nI x))) (show 1 = hdlN f n E mj (fi f E k) (se f E k) from by
              unfold hdlN
              first | ((repeat first | rw [if_pos (by omega)] | rw [if_neg (by omega)]) <;> first | rfl | omega) | ((repeat' split) <;> first | rfl | (exfalso; omega) | omega)), rfl⟩)
    · have c_40 : ¬ ((nI (fi f E k)) ≤ 9) := of_decide_eq_false c_40
      have n_40 : ¬ (fi f E k ≤ 9) := fun h9 => c_40 ((le_nI (p := fi f E k) (n := 9) (Nat.lt_trans (fi_lt _ _ _) (by decide)) (by decide)).mpr h9)
      refine ps_st (S' := (44, [], [.int 0], M)) rfl rfl rfl ?_
      exact ps_ret rfl rfl (⟨congrArg (fun x => some (Value.int (nI x))) (show 0 = hdlN f n E mj (fi f E k) (se f E k) from by
          unfold hdlN
          first | ((repeat first | rw [if_pos (by omega)] | rw [if_neg (by omega)]) <;> first | rfl | omega) | ((repeat' split) <;> first | rfl | (exfalso; omega) | omega)), rfl⟩)
set_option maxHeartbeats 8000000 in
theorem rd_checkPool {g : xe_G} {m0 : Nat} {q : Nat → Nat} {z : Nat × Nat} {I : rI} {R : rR} {M : mi_H} {n : Nat} {f : Nat → Int32} {tx : List (List Nat)} {cN : Nat} {A : Nat → Nat} {N mj : Nat} {E : List (Nat × Nat)} {s1 : Nat} (hR : RS g m0 q z I R M) (hi51 : I 51 = some 0) (hi52 : I 52 = some (nI N)) (hi53 : I 53 = some (nI mj)) (hi9 : I 9 = some (nI s1)) (hF : FK n f I R) (hY : SYT tx cN A I R) (hP : RPV f n E tx N I R) (hEP : EP f n E) (hN : N < 65536) (hmj : mj < 65536) (hs1 : s1 < tx.length ∧ tx.getD s1 [] = ltx 25) (hN1 : 1 ≤ N) : pt (mT g) 192 [.ref m0] M (fun v M' => (∃  (I' : rI) (R' : rR), (chkP f n E mj (N - 1) 1 = none) ∧ v = some (.int 1) ∧ RS g m0 q z I' R' M' ∧ eqI [47, 48] I I' ∧ eqR [] R R') ∨ (∃ (e : Nat × Nat) (I' : rI) (R' : rR), (chkP f n E mj (N - 1) 1 = some e) ∧ v = some (.int 0) ∧ RS g m0 q z I' R' M' ∧ eqI [47, 48] I I' ∧ eqR [] R R' ∧ I' 47 = some (nI e.1) ∧ I' 48 = some (nI e.2))) := by
  refine pt_in (b := mb_192 g) rfl (fun kf => ?_)
  show pl (mT g) kf (mb_192 g).2 (0, [(0, .ref m0)], [], M) _
  have hEI : eqI [47, 48] I I := eqI.rf
  have hER : eqR [] R R := eqR.rf
  have hn := hF.1
  have LL : ∀ (kf : Nat), (∀ (k : Nat) (M1 : mi_H) (I1 : rI) (R1 : rR), (RS g m0 q z I1 R1 M1) → (eqI [47, 48] I I1) → (eqR [] R R1) → (I1 51 = some 0) → (I1 52 = some (nI N)) → (I1 53 = some (nI mj)) → (I1 9 = some (nI s1)) → (FK n f I1 R1) → (SYT tx cN A I1 R1) → (RPV f n E tx N I1 R1) → (1 ≤ k ∧ k ≤ N) → (chkP f n E mj (N - k) k = chkP f n E mj (N - 1) 1) →  pl (mT g) kf (mb_192 g).2 (2, [(0, .ref m0), (1, .int (nI k))], [], M1) (fun v M' => (∃  (I' : rI) (R' : rR), (chkP f n E mj (N - 1) 1 = none) ∧ v = some (.int 1) ∧ RS g m0 q z I' R' M' ∧ eqI [47, 48] I I' ∧ eqR [] R R') ∨ (∃ (e : Nat × Nat) (I' : rI) (R' : rR), (chkP f n E mj (N - 1) 1 = some e) ∧ v = some (.int 0) ∧ RS g m0 q z I' R' M' ∧ eqI [47, 48] I I' ∧ eqR [] R R' ∧ I' 47 = some (nI e.1) ∧ I' 48 = some (nI e.2)))) := by
    intro kf
    induction kf with
    | zero => exact (by intros; exact pl_0)
    | succ kf ih =>
      intro k M1 I1 R1 hR1 hEI1 hER1 hl51 hl52 hl53 hl9 hF1 hY1 hP1 hk hs
      have hn := hF1.1
      have htl := hY1.1.2.2.1
      refine ps_st1 (S' := (3, [(0, .ref m0), (1, .int (nI k))], [.int (nI k)], M1)) rfl rfl rfl ?_
      refine ps_st (S' := (4, [(0, .ref m0), (1, .int (nI k))], [.ref m0, .int (nI k)], M1)) rfl rfl rfl ?_
      refine pr_int (j := 52) (S' := (7, [(0, .ref m0), (1, .int (nI k))], [.int (nI N), .int (nI k)], M1)) rfl hR1 rfl hl52 rfl ?_
      refine ps_if2 (S1 := (426, [(0, .ref m0), (1, .int (nI k))], [], M1)) (S2 := (10, [(0, .ref m0), (1, .int (nI k))], [], M1)) rfl rfl rfl (fun c_7 => ?_) (fun c_7 => ?_)
      · have c_7 : (nI N) ≤ (nI k) := of_decide_eq_true c_7
        have n_7 : N ≤ k := (le_nI (p := N) (n := k) (by omega) (by omega)).mp c_7
        refine ps_st (S' := (427, [(0, .ref m0), (1, .int (nI k))], [.int 1], M1)) rfl rfl rfl ?_
        exact ps_ret rfl rfl (Or.inl ⟨I1, R1, by
            rw [← hs, show N - k = 0 by omega]
            rfl, rfl, hR1, hEI1, hER1⟩)
      · have c_7 : ¬ ((nI N) ≤ (nI k)) := of_decide_eq_false c_7
        have n_7 : ¬ (N ≤ k) := fun h9 => c_7 ((le_nI (p := N) (n := k) (by omega) (by omega)).mpr h9)
        refine ps_st (S' := (11, [(0, .ref m0), (1, .int (nI k))], [.ref m0], M1)) rfl rfl rfl ?_
        refine pr_ref (j := 21) (S' := (14, [(0, .ref m0), (1, .int (nI k))], [.ref (q 21)], M1)) rfl hR1 rfl rfl ?_
        refine ps_st (S' := (15, [(0, .ref m0), (1, .int (nI k))], [.ref m0, .ref (q 21)], M1)) rfl rfl rfl ?_
        refine pr_int (j := 51) (S' := (18, [(0, .ref m0), (1, .int (nI k))], [.int 0, .ref (q 21)], M1)) rfl hR1 rfl hl51 rfl ?_
        refine ps_st (S' := (19, [(0, .ref m0), (1, .int (nI k))], [.int (nI k), .int 0, .ref (q 21)], M1)) rfl rfl rfl ?_
        refine ps_st (S' := (20, [(0, .ref m0), (1, .int (nI k))], [.int (0 + (nI k)), .ref (q 21)], M1)) rfl rfl rfl ?_
        rw [show (0 : Int32) + (nI k) = (nI k) from Int32.zero_add _]
        show pl _ _ _ (_, [(0, .ref m0), (1, .int (nI k))], [.int (nI k), .ref (q 21)], M1) _
        refine pr_ld (a := 21) (j := k) (y := (plI (lk E k))) (S' := (21, [(0, .ref m0), (1, .int (nI k))], [.int (plI (lk E k))], M1)) rfl hR1 rfl (by omega) (fun _ => hP1.2.1 k (by omega)) rfl (fun i1_20 => ?_)
        refine ps_st (S' := (22, [(2, .int (plI (lk E k))), (0, .ref m0), (1, .int (nI k))], [], M1)) rfl rfl rfl ?_
        refine ps_st (S' := (23, [(2, .int (plI (lk E k))), (0, .ref m0), (1, .int (nI k))], [.int (plI (lk E k))], M1)) rfl rfl rfl ?_
        refine ps_if (S1 := (29, [(2, .int (plI (lk E k))), (0, .ref m0), (1, .int (nI k))], [], M1)) (S2 := (26, [(2, .int (plI (lk E k))), (0, .ref m0), (1, .int (nI k))], [], M1)) rfl rfl rfl (fun c_23 => ?_) (fun c_23 => ?_)
        · have c_23 : 0 ≤ (plI (lk E k)) := of_decide_eq_true c_23
          obtain ⟨p, hpe, hk9⟩ := plI_some (by assumption)
          rw [hpe]
          show pl _ _ _ (29, [(2, .int (nI p)), (0, .ref m0), (1, .int (nI k))], [], M1) _
          have htk : tg f E k = by1 f p := tg_of hk9
          have hep := hEP k p hk9
          have hu9 := by1_lt f p
          have htp := tp_is hk9
          refine ps_st (S' := (30, [(2, .int (nI p)), (0, .ref m0), (1, .int (nI k))], [.ref m0], M1)) rfl rfl rfl ?_
          refine ps_st (S' := (31, [(2, .int (nI p)), (0, .ref m0), (1, .int (nI k))], [.int (nI p), .ref m0], M1)) rfl rfl rfl ?_
          refine pl_call (a := [.ref m0, .int (nI p)]) (rest := []) rfl rfl rfl (rd_u1 (n := n) (f := f) (p := p) hR1 hF1 (by omega)) (fun v1 M2 q3 => ?_)
          obtain ⟨rfl, rfl⟩ := q3
          show pl _ _ _ (34, [(2, .int (nI p)), (0, .ref m0), (1, .int (nI k))], [.int (nI (by1 f p))], M1) _
          have hu_31 := by1_lt f p
          refine ps_st (S' := (35, [(3, .int (nI (by1 f p))), (2, .int (nI p)), (0, .ref m0), (1, .int (nI k))], [], M1)) rfl rfl rfl ?_
          refine ps_st (S' := (36, [(3, .int (nI (by1 f p))), (2, .int (nI p)), (0, .ref m0), (1, .int (nI k))], [.ref m0], M1)) rfl rfl rfl ?_
          refine ps_st (S' := (37, [(3, .int (nI (by1 f p))), (2, .int (nI p)), (0, .ref m0), (1, .int (nI k))], [.int (nI k), .ref m0], M1)) rfl rfl rfl ?_
          refine ps_st (S' := (38, [(3, .int (nI (by1 f p))), (2, .int (nI p)), (0, .ref m0), (1, .int (nI k))], [.int (nI (by1 f p)), .int (nI k), .ref m0], M1)) rfl rfl rfl ?_
          refine ps_st (S' := (39, [(3, .int (nI (by1 f p))), (2, .int (nI p)), (0, .ref m0), (1, .int (nI k))], [.int 1, .int (nI (by1 f p)), .int (nI k), .ref m0], M1)) rfl rfl rfl ?_
          refine pl_call (a := [.ref m0, .int (nI k), .int (nI (by1 f p)), .int 1]) (rest := []) rfl rfl rfl (rd_indexes (n := n) (f := f) (tx := tx) (cN := cN) (A := A) (N := N) (mj := mj) (E := E) (k := k) (t := (by1 f p)) hR1 hl51 hl52 hl53 hF1 hY1 hP1 (hEP) (hN) (hmj) (htk) (by omega) (by omega)) (fun v4 M5 q6 => ?_)
          obtain ⟨rfl, rfl⟩ := q6
          show pl _ _ _ (42, [(3, .int (nI (by1 f p))), (2, .int (nI p)), (0, .ref m0), (1, .int (nI k))], [.int (nI (lnkN f E k))], M1) _
          refine ps_if (S1 := (53, [(3, .int (nI (by1 f p))), (2, .int (nI p)), (0, .ref m0), (1, .int (nI k))], [], M1)) (S2 := (45, [(3, .int (nI (by1 f p))), (2, .int (nI p)), (0, .ref m0), (1, .int (nI k))], [], M1)) rfl rfl rfl (fun c_42 => ?_) (fun c_42 => ?_)
          · have c_42 : ¬ (nI (lnkN f E k)) = 0 := of_decide_eq_true c_42
            have n_42 : ¬ (lnkN f E k = 0) := fun h9 => c_42 ((eq_nI (p := lnkN f E k) (n := 0) (Nat.lt_trans (le1_lnk _ _ _) (by decide)) (by decide)).mpr h9)
            have hin := lnk_in (f := f) (E := E) (k := k) (by omega)
            refine ps_st (S' := (54, [(3, .int (nI (by1 f p))), (2, .int (nI p)), (0, .ref m0), (1, .int (nI k))], [.int (nI (by1 f p))], M1)) rfl rfl rfl ?_
            refine ps_st (S' := (56, [(3, .int (nI (by1 f p))), (2, .int (nI p)), (0, .ref m0), (1, .int (nI k))], [.int 7, .int (nI (by1 f p))], M1)) rfl rfl rfl ?_
            refine ps_if2 (S1 := (84, [(0, .ref m0), (1, .int (nI k)), (2, .int (nI p)), (3, .int (nI (by1 f p)))], [], M1)) (S2 := (59, [(3, .int (nI (by1 f p))), (2, .int (nI p)), (0, .ref m0), (1, .int (nI k))], [], M1)) rfl rfl rfl (fun c_56 => ?_) (fun c_56 => ?_)
            · have c_56 : ¬ (nI (by1 f p)) = 7 := of_decide_eq_true c_56
              have n_56 : ¬ (by1 f p = 7) := fun h9 => c_56 ((eq_nI (p := by1 f p) (n := 7) (Nat.lt_trans (by1_lt _ _) (by decide)) (by decide)).mpr h9)
              refine ps_st (S' := (85, [(0, .ref m0), (1, .int (nI k)), (2, .int (nI p)), (3, .int (nI (by1 f p)))], [.int (nI (by1 f p))], M1)) rfl rfl rfl ?_
              refine ps_st (S' := (87, [(0, .ref m0), (1, .int (nI k)), (2, .int (nI p)), (3, .int (nI (by1 f p)))], [.int 12, .int (nI (by1 f p))], M1)) rfl rfl rfl ?_
              refine ps_if2 (S1 := (150, [(0, .ref m0), (1, .int (nI k)), (2, .int (nI p)), (3, .int (nI (by1 f p)))], [], M1)) (S2 := (90, [(0, .ref m0), (1, .int (nI k)), (2, .int (nI p)), (3, .int (nI (by1 f p)))], [], M1)) rfl rfl rfl (fun c_87 => ?_) (fun c_87 => ?_)
              · have c_87 : ¬ (nI (by1 f p)) = 12 := of_decide_eq_true c_87
                have n_87 : ¬ (by1 f p = 12) := fun h9 => c_87 ((eq_nI (p := by1 f p) (n := 12) (Nat.lt_trans (by1_lt _ _) (by decide)) (by decide)).mpr h9)
                refine ps_st (S' := (151, [(0, .ref m0), (1, .int (nI k)), (2, .int (nI p)), (3, .int (nI (by1 f p)))], [.int (nI (by1 f p))], M1)) rfl rfl rfl ?_
                refine ps_st (S' := (153, [(0, .ref m0), (1, .int (nI k)), (2, .int (nI p)), (3, .int (nI (by1 f p)))], [.int 9, .int (nI (by1 f p))], M1)) rfl rfl rfl ?_
                refine ps_if2 (S1 := (277, [(0, .ref m0), (1, .int (nI k)), (2, .int (nI p)), (3, .int (nI (by1 f p)))], [], M1)) (S2 := (156, [(0, .ref m0), (1, .int (nI k)), (2, .int (nI p)), (3, .int (nI (by1 f p)))], [], M1)) rfl rfl rfl (fun c_153 => ?_) (fun c_153 => ?_)
                · have c_153 : (nI (by1 f p)) < 9 := of_decide_eq_true c_153
                  have n_153 : by1 f p < 9 := (lt_nI (p := by1 f p) (n := 9) (Nat.lt_trans (by1_lt _ _) (by decide)) (by decide)).mp c_153
                  refine ps_st (S' := (278, [(0, .ref m0), (1, .int (nI k)), (2, .int (nI p)), (3, .int (nI (by1 f p)))], [.int (nI (by1 f p))], M1)) rfl rfl rfl ?_
                  refine ps_st (S' := (280, [(0, .ref m0), (1, .int (nI k)), (2, .int (nI p)), (3, .int (nI (by1 f p)))], [.int 15, .int (nI (by1 f p))], M1)) rfl rfl rfl ?_
                  refine ps_if2 (S1 := (299, [(0, .ref m0), (1, .int (nI k)), (2, .int (nI p)), (3, .int (nI (by1 f p)))], [], M1)) (S2 := (283, [(0, .ref m0), (1, .int (nI k)), (2, .int (nI p)), (3, .int (nI (by1 f p)))], [], M1)) rfl rfl rfl (fun c_280 => ?_) (fun c_280 => ?_)
                  rotate_left
                  · exact absurd (show ¬ ((nI (by1 f p)) = 15) from fun h9 => absurd ((eq_nI (p := by1 f p) (n := 15) (Nat.lt_trans (by1_lt _ _) (by decide)) (by decide)).mp h9) (by omega)) (of_decide_eq_false c_280)
                  refine ps_st (S' := (300, [(0, .ref m0), (1, .int (nI k)), (2, .int (nI p)), (3, .int (nI (by1 f p)))], [.int (nI (by1 f p))], M1)) rfl rfl rfl ?_
                  refine ps_st (S' := (302, [(0, .ref m0), (1, .int (nI k)), (2, .int (nI p)), (3, .int (nI (by1 f p)))], [.int 16, .int (nI (by1 f p))], M1)) rfl rfl rfl ?_
                  refine ps_if2 (S1 := (330, [(0, .ref m0), (1, .int (nI k)), (2, .int (nI p)), (3, .int (nI (by1 f p)))], [], M1)) (S2 := (305, [(0, .ref m0), (1, .int (nI k)), (2, .int (nI p)), (3, .int (nI (by1 f p)))], [], M1)) rfl rfl rfl (fun c_302 => ?_) (fun c_302 => ?_)
                  rotate_left
                  · exact absurd (show ¬ ((nI (by1 f p)) = 16) from fun h9 => absurd ((eq_nI (p := by1 f p) (n := 16) (Nat.lt_trans (by1_lt _ _) (by decide)) (by decide)).mp h9) (by omega)) (of_decide_eq_false c_302)
                  refine ps_st (S' := (331, [(0, .ref m0), (1, .int (nI k)), (2, .int (nI p)), (3, .int (nI (by1 f p)))], [.int (nI (by1 f p))], M1)) rfl rfl rfl ?_
                  refine ps_st (S' := (333, [(0, .ref m0), (1, .int (nI k)), (2, .int (nI p)), (3, .int (nI (by1 f p)))], [.int 17, .int (nI (by1 f p))], M1)) rfl rfl rfl ?_
                  refine ps_if2 (S1 := (342, [(0, .ref m0), (1, .int (nI k)), (2, .int (nI p)), (3, .int (nI (by1 f p)))], [], M1)) (S2 := (336, [(0, .ref m0), (1, .int (nI k)), (2, .int (nI p)), (3, .int (nI (by1 f p)))], [], M1)) rfl rfl rfl (fun c_333 => ?_) (fun c_333 => ?_)
                  · exact absurd (of_decide_eq_true c_333) (show ¬ ((nI (by1 f p)) = 17) from fun h9 => absurd ((eq_nI (p := by1 f p) (n := 17) (Nat.lt_trans (by1_lt _ _) (by decide)) (by decide)).mp h9) (by omega))
                  refine ps_st (S' := (337, [(0, .ref m0), (1, .int (nI k)), (2, .int (nI p)), (3, .int (nI (by1 f p)))], [.int (nI (by1 f p))], M1)) rfl rfl rfl ?_
                  refine ps_st (S' := (339, [(0, .ref m0), (1, .int (nI k)), (2, .int (nI p)), (3, .int (nI (by1 f p)))], [.int 18, .int (nI (by1 f p))], M1)) rfl rfl rfl ?_
                  refine ps_if2 (S1 := (420, [(0, .ref m0), (1, .int (nI k))], [], M1)) (S2 := (342, [(0, .ref m0), (1, .int (nI k)), (2, .int (nI p)), (3, .int (nI (by1 f p)))], [], M1)) rfl rfl rfl (fun c_339 => ?_) (fun c_339 => ?_)
                  rotate_left
                  · exact absurd (show ¬ ((nI (by1 f p)) = 18) from fun h9 => absurd ((eq_nI (p := by1 f p) (n := 18) (Nat.lt_trans (by1_lt _ _) (by decide)) (by decide)).mp h9) (by omega)) (of_decide_eq_false c_339)
                  refine ps_st (S' := (423, [(1, .int ((nI k) + 1)), (0, .ref m0)], [], M1)) rfl rfl rfl ?_
                  rw [nI_add1 (p := k) (k := 1) (x := 1) rfl (by omega)]
                  show pl _ _ _ (_, [(1, .int (nI (k + 1))), (0, .ref m0)], [], M1) _
                  refine ps_st (S' := (2, [(0, .ref m0), (1, .int (nI (k + 1)))], [], M1)) rfl rfl rfl ?_
                  exact ih (k + 1) M1 I1 R1 hR1 hEI1 hER1 hl51 hl52 hl53 hl9 hF1 hY1 hP1 (by omega) (by
                      have hb : brkN f n E mj k = 0 := by
                        have e12 := nwt_9 (f := f) (n := n) (E := E) (k := k)
                        have e13 := mrf_9 (f := f) (n := n) (E := E) (k := k)
                        unfold brkN
                        first | ((repeat first | rw [if_pos (by omega)] | rw [if_neg (by omega)]) <;> first | rfl | omega) | ((repeat' split) <;> first | rfl | (exfalso; omega) | omega)
                      rw [← hs, chkP_st (k := k) (by omega), if_neg (by omega), if_pos hb])
                · have c_153 : ¬ ((nI (by1 f p)) < 9) := of_decide_eq_false c_153
                  have n_153 : ¬ (by1 f p < 9) := fun h9 => c_153 ((lt_nI (p := by1 f p) (n := 9) (Nat.lt_trans (by1_lt _ _) (by decide)) (by decide)).mpr h9)
                  refine ps_st (S' := (157, [(0, .ref m0), (1, .int (nI k)), (2, .int (nI p)), (3, .int (nI (by1 f p)))], [.int (nI (by1 f p))], M1)) rfl rfl rfl ?_
                  refine ps_st (S' := (159, [(0, .ref m0), (1, .int (nI k)), (2, .int (nI p)), (3, .int (nI (by1 f p)))], [.int 11, .int (nI (by1 f p))], M1)) rfl rfl rfl ?_
                  refine ps_if2 (S1 := (277, [(0, .ref m0), (1, .int (nI k)), (2, .int (nI p)), (3, .int (nI (by1 f p)))], [], M1)) (S2 := (162, [(0, .ref m0), (1, .int (nI k)), (2, .int (nI p)), (3, .int (nI (by1 f p)))], [], M1)) rfl rfl rfl (fun c_159 => ?_) (fun c_159 => ?_)
                  · have c_159 : 11 < (nI (by1 f p)) := of_decide_eq_true c_159
                    have n_159 : 11 < by1 f p := (lt_nI (p := 11) (n := by1 f p) (by decide) (Nat.lt_trans (by1_lt _ _) (by decide))).mp c_159
                    refine ps_st (S' := (278, [(0, .ref m0), (1, .int (nI k)), (2, .int (nI p)), (3, .int (nI (by1 f p)))], [.int (nI (by1 f p))], M1)) rfl rfl rfl ?_
                    refine ps_st (S' := (280, [(0, .ref m0), (1, .int (nI k)), (2, .int (nI p)), (3, .int (nI (by1 f p)))], [.int 15, .int (nI (by1 f p))], M1)) rfl rfl rfl ?_
                    refine ps_if2 (S1 := (299, [(0, .ref m0), (1, .int (nI k)), (2, .int (nI p)), (3, .int (nI (by1 f p)))], [], M1)) (S2 := (283, [(0, .ref m0), (1, .int (nI k)), (2, .int (nI p)), (3, .int (nI (by1 f p)))], [], M1)) rfl rfl rfl (fun c_280 => ?_) (fun c_280 => ?_)
                    · have c_280 : ¬ (nI (by1 f p)) = 15 := of_decide_eq_true c_280
                      have n_280 : ¬ (by1 f p = 15) := fun h9 => c_280 ((eq_nI (p := by1 f p) (n := 15) (Nat.lt_trans (by1_lt _ _) (by decide)) (by decide)).mpr h9)
                      refine ps_st (S' := (300, [(0, .ref m0), (1, .int (nI k)), (2, .int (nI p)), (3, .int (nI (by1 f p)))], [.int (nI (by1 f p))], M1)) rfl rfl rfl ?_
                      refine ps_st (S' := (302, [(0, .ref m0), (1, .int (nI k)), (2, .int (nI p)), (3, .int (nI (by1 f p)))], [.int 16, .int (nI (by1 f p))], M1)) rfl rfl rfl ?_
                      refine ps_if2 (S1 := (330, [(0, .ref m0), (1, .int (nI k)), (2, .int (nI p)), (3, .int (nI (by1 f p)))], [], M1)) (S2 := (305, [(0, .ref m0), (1, .int (nI k)), (2, .int (nI p)), (3, .int (nI (by1 f p)))], [], M1)) rfl rfl rfl (fun c_302 => ?_) (fun c_302 => ?_)
                      · have c_302 : ¬ (nI (by1 f p)) = 16 := of_decide_eq_true c_302
                        have n_302 : ¬ (by1 f p = 16) := fun h9 => c_302 ((eq_nI (p := by1 f p) (n := 16) (Nat.lt_trans (by1_lt _ _) (by decide)) (by decide)).mpr h9)
                        refine ps_st (S' := (331, [(0, .ref m0), (1, .int (nI k)), (2, .int (nI p)), (3, .int (nI (by1 f p)))], [.int (nI (by1 f p))], M1)) rfl rfl rfl ?_
                        refine ps_st (S' := (333, [(0, .ref m0), (1, .int (nI k)), (2, .int (nI p)), (3, .int (nI (by1 f p)))], [.int 17, .int (nI (by1 f p))], M1)) rfl rfl rfl ?_
                        refine ps_if2 (S1 := (342, [(0, .ref m0), (1, .int (nI k)), (2, .int (nI p)), (3, .int (nI (by1 f p)))], [], M1)) (S2 := (336, [(0, .ref m0), (1, .int (nI k)), (2, .int (nI p)), (3, .int (nI (by1 f p)))], [], M1)) rfl rfl rfl (fun c_333 => ?_) (fun c_333 => ?_)
                        · have c_333 : (nI (by1 f p)) = 17 := of_decide_eq_true c_333
                          have n_333 : by1 f p = 17 := (eq_nI (p := by1 f p) (n := 17) (Nat.lt_trans (by1_lt _ _) (by decide)) (by decide)).mp c_333
                          refine ps_st (S' := (343, [(0, .ref m0), (1, .int (nI k)), (2, .int (nI p)), (3, .int (nI (by1 f p)))], [.ref m0], M1)) rfl rfl rfl ?_
                          refine ps_st (S' := (344, [(0, .ref m0), (1, .int (nI k)), (2, .int (nI p)), (3, .int (nI (by1 f p)))], [.ref m0, .ref m0], M1)) rfl rfl rfl ?_
                          refine ps_st (S' := (345, [(0, .ref m0), (1, .int (nI k)), (2, .int (nI p)), (3, .int (nI (by1 f p)))], [.ref m0, .ref m0, .ref m0], M1)) rfl rfl rfl ?_
                          refine ps_st (S' := (346, [(0, .ref m0), (1, .int (nI k)), (2, .int (nI p)), (3, .int (nI (by1 f p)))], [.int (nI k), .ref m0, .ref m0, .ref m0], M1)) rfl rfl rfl ?_
                          refine ps_st (S' := (347, [(0, .ref m0), (1, .int (nI k)), (2, .int (nI p)), (3, .int (nI (by1 f p)))], [.int 3, .int (nI k), .ref m0, .ref m0, .ref m0], M1)) rfl rfl rfl ?_
                          refine pl_call (a := [.ref m0, .int (nI k), .int 3]) (rest := [.ref m0, .ref m0]) rfl rfl rfl (rd_idx3 (n := n) (f := f) (tx := tx) (cN := cN) (A := A) (N := N) (mj := mj) (E := E) (k := k) hR1 hl51 hl52 hl53 hF1 hY1 hP1 (hEP) (hN) (hmj) (by omega)) (fun v7 M8 q9 => ?_)
                          obtain ⟨rfl, rfl⟩ := q9
                          show pl _ _ _ (350, [(0, .ref m0), (1, .int (nI k)), (2, .int (nI p)), (3, .int (nI (by1 f p)))], [.int (nI (se f E k)), .ref m0, .ref m0], M1) _
                          have hix_347 := se_lt f E k
                          refine ps_st (S' := (351, [(0, .ref m0), (1, .int (nI k)), (2, .int (nI p)), (3, .int (nI (by1 f p)))], [.int 1, .int (nI (se f E k)), .ref m0, .ref m0], M1)) rfl rfl rfl ?_
                          refine pl_call (a := [.ref m0, .int (nI (se f E k)), .int 1]) (rest := [.ref m0]) rfl rfl rfl (rd_idx1 (n := n) (f := f) (tx := tx) (cN := cN) (A := A) (N := N) (mj := mj) (E := E) (k := (se f E k)) hR1 hl51 hl52 hl53 hF1 hY1 hP1 (hEP) (hN) (hmj) (by omega)) (fun v10 M11 q12 => ?_)
                          obtain ⟨rfl, rfl⟩ := q12
                          show pl _ _ _ (354, [(0, .ref m0), (1, .int (nI k)), (2, .int (nI p)), (3, .int (nI (by1 f p)))], [.int (nI (fi f E (se f E k))), .ref m0], M1) _
                          have hix_351 := fi_lt f E (se f E k)
                          refine pl_call (a := [.ref m0, .int (nI (fi f E (se f E k)))]) (rest := []) rfl rfl rfl (rd_symOf (n := n) (f := f) (tx := tx) (cN := cN) (A := A) (N := N) (mj := mj) (E := E) (k := (fi f E (se f E k))) hR1 hl51 hl52 hl53 hF1 hY1 hP1 (hEP) (hN) (hmj) (by omega)) (fun v13 M14 q15 => ?_)
                          obtain ⟨s16, q354_s, rfl, rfl⟩ := q15
                          show pl _ _ _ (357, [(0, .ref m0), (1, .int (nI k)), (2, .int (nI p)), (3, .int (nI (by1 f p)))], [.int (nI s16)], M1) _
                          have hsl_354 := q354_s.1
                          have htl_354 := hY1.1.2.2.1
                          refine ps_st (S' := (359, [(4, .int (nI s16)), (0, .ref m0), (1, .int (nI k)), (2, .int (nI p)), (3, .int (nI (by1 f p)))], [], M1)) rfl rfl rfl ?_
                          refine ps_st (S' := (360, [(4, .int (nI s16)), (0, .ref m0), (1, .int (nI k)), (2, .int (nI p)), (3, .int (nI (by1 f p)))], [.ref m0], M1)) rfl rfl rfl ?_
                          refine ps_st (S' := (361, [(4, .int (nI s16)), (0, .ref m0), (1, .int (nI k)), (2, .int (nI p)), (3, .int (nI (by1 f p)))], [.ref m0, .ref m0], M1)) rfl rfl rfl ?_
                          refine ps_st (S' := (362, [(4, .int (nI s16)), (0, .ref m0), (1, .int (nI k)), (2, .int (nI p)), (3, .int (nI (by1 f p)))], [.ref m0, .ref m0, .ref m0], M1)) rfl rfl rfl ?_
                          refine ps_st (S' := (363, [(4, .int (nI s16)), (0, .ref m0), (1, .int (nI k)), (2, .int (nI p)), (3, .int (nI (by1 f p)))], [.int (nI k), .ref m0, .ref m0, .ref m0], M1)) rfl rfl rfl ?_
                          refine ps_st (S' := (364, [(4, .int (nI s16)), (0, .ref m0), (1, .int (nI k)), (2, .int (nI p)), (3, .int (nI (by1 f p)))], [.int 3, .int (nI k), .ref m0, .ref m0, .ref m0], M1)) rfl rfl rfl ?_
                          refine pl_call (a := [.ref m0, .int (nI k), .int 3]) (rest := [.ref m0, .ref m0]) rfl rfl rfl (rd_idx3 (n := n) (f := f) (tx := tx) (cN := cN) (A := A) (N := N) (mj := mj) (E := E) (k := k) hR1 hl51 hl52 hl53 hF1 hY1 hP1 (hEP) (hN) (hmj) (by omega)) (fun v17 M18 q19 => ?_)
                          obtain ⟨rfl, rfl⟩ := q19
                          show pl _ _ _ (367, [(4, .int (nI s16)), (0, .ref m0), (1, .int (nI k)), (2, .int (nI p)), (3, .int (nI (by1 f p)))], [.int (nI (se f E k)), .ref m0, .ref m0], M1) _
                          have hix_364 := se_lt f E k
                          refine ps_st (S' := (368, [(4, .int (nI s16)), (0, .ref m0), (1, .int (nI k)), (2, .int (nI p)), (3, .int (nI (by1 f p)))], [.int 3, .int (nI (se f E k)), .ref m0, .ref m0], M1)) rfl rfl rfl ?_
                          refine pl_call (a := [.ref m0, .int (nI (se f E k)), .int 3]) (rest := [.ref m0]) rfl rfl rfl (rd_idx3 (n := n) (f := f) (tx := tx) (cN := cN) (A := A) (N := N) (mj := mj) (E := E) (k := (se f E k)) hR1 hl51 hl52 hl53 hF1 hY1 hP1 (hEP) (hN) (hmj) (by omega)) (fun v20 M21 q22 => ?_)
                          obtain ⟨rfl, rfl⟩ := q22
                          show pl _ _ _ (371, [(4, .int (nI s16)), (0, .ref m0), (1, .int (nI k)), (2, .int (nI p)), (3, .int (nI (by1 f p)))], [.int (nI (se f E (se f E k))), .ref m0], M1) _
                          have hix_368 := se_lt f E (se f E k)
                          refine pl_call (a := [.ref m0, .int (nI (se f E (se f E k)))]) (rest := []) rfl rfl rfl (rd_symOf (n := n) (f := f) (tx := tx) (cN := cN) (A := A) (N := N) (mj := mj) (E := E) (k := (se f E (se f E k))) hR1 hl51 hl52 hl53 hF1 hY1 hP1 (hEP) (hN) (hmj) (by omega)) (fun v23 M24 q25 => ?_)
                          obtain ⟨s26, q371_s, rfl, rfl⟩ := q25
                          show pl _ _ _ (374, [(4, .int (nI s16)), (0, .ref m0), (1, .int (nI k)), (2, .int (nI p)), (3, .int (nI (by1 f p)))], [.int (nI s26)], M1) _
                          have hsl_371 := q371_s.1
                          have htl_371 := hY1.1.2.2.1
                          refine ps_st (S' := (376, [(5, .int (nI s26)), (4, .int (nI s16)), (0, .ref m0), (1, .int (nI k)), (2, .int (nI p)), (3, .int (nI (by1 f p)))], [], M1)) rfl rfl rfl ?_
                          refine ps_st (S' := (377, [(5, .int (nI s26)), (4, .int (nI s16)), (0, .ref m0), (1, .int (nI k)), (2, .int (nI p)), (3, .int (nI (by1 f p)))], [.ref m0], M1)) rfl rfl rfl ?_
                          refine ps_st (S' := (379, [(5, .int (nI s26)), (4, .int (nI s16)), (0, .ref m0), (1, .int (nI k)), (2, .int (nI p)), (3, .int (nI (by1 f p)))], [.int (nI s16), .ref m0], M1)) rfl rfl rfl ?_
                          refine pl_call (a := [.ref m0, .int (nI s16)]) (rest := []) rfl rfl rfl (rd_angles (tx := tx) (cN := cN) (A := A) (s := s16) (l := (tX f n E (fi f E (se f E k)))) hR1 hY1 (q354_s)) (fun v27 M28 q29 => ?_)
                          obtain ⟨rfl, rfl⟩ := q29
                          show pl _ _ _ (382, [(5, .int (nI s26)), (4, .int (nI s16)), (0, .ref m0), (1, .int (nI k)), (2, .int (nI p)), (3, .int (nI (by1 f p)))], [.int (nI (angN (tX f n E (fi f E (se f E k)))))], M1) _
                          refine ps_if (S1 := (412, [(0, .ref m0), (2, .int (nI p))], [], M1)) (S2 := (385, [(5, .int (nI s26)), (4, .int (nI s16)), (0, .ref m0), (1, .int (nI k)), (2, .int (nI p)), (3, .int (nI (by1 f p)))], [], M1)) rfl rfl rfl (fun c_382 => ?_) (fun c_382 => ?_)
                          · have c_382 : ¬ (nI (angN (tX f n E (fi f E (se f E k))))) = 0 := of_decide_eq_true c_382
                            have n_382 : ¬ (angN (tX f n E (fi f E (se f E k))) = 0) := fun h9 => c_382 ((eq_nI (p := angN (tX f n E (fi f E (se f E k)))) (n := 0) (Nat.lt_trans (le1_ang _) (by decide)) (by decide)).mpr h9)
                            refine ps_st (S' := (413, [(0, .ref m0), (2, .int (nI p))], [.ref m0], M1)) rfl rfl rfl ?_
                            refine ps_st (S' := (415, [(0, .ref m0), (2, .int (nI p))], [.int 14, .ref m0], M1)) rfl rfl rfl ?_
                            refine ps_st (S' := (416, [(0, .ref m0), (2, .int (nI p))], [.int (nI p), .int 14, .ref m0], M1)) rfl rfl rfl ?_
                            refine pl_call (a := [.ref m0, .int 14, .int (nI p)]) (rest := []) rfl rfl rfl (rd_wrong (x1 := 14) (x2 := (nI p)) hR1) (fun v30 M31 q32 => ?_)
                            obtain ⟨I33, R34, rfl, hR35, hI36, hX37, hi38, hi39⟩ := q32
                            have hi40 := (hI36 51 (by decide)).trans hl51
                            have hi41 := (hI36 52 (by decide)).trans hl52
                            have hi42 := (hI36 53 (by decide)).trans hl53
                            have hi43 := (hI36 9 (by decide)).trans hl9
                            have hF_44 := hF1.mono (cIx hI36 (by decide)) (cRx hX37 (by decide))
                            have hY_45 := hY1.mono (cIx hI36 (by decide)) (cRx hX37 (by decide))
                            have hP_46 := hP1.mono (cIx hI36 (by decide)) (cRx hX37 (by decide))
                            have hEI47 := hEI1.tr hI36 (by decide)
                            have hER48 := hER1.tr hX37 (by decide)
                            show pl _ _ _ (419, [(0, .ref m0), (2, .int (nI p))], [.int 0], M31) _
                            exact ps_ret rfl rfl (Or.inr ⟨(14, p), I33, R34, by
                                have hb : brkN f n E mj k = 14 := by
                                  have e12 := nwt_9 (f := f) (n := n) (E := E) (k := k)
                                  have e13 := mrf_9 (f := f) (n := n) (E := E) (k := k)
                                  unfold brkN
                                  first | ((repeat first | rw [if_pos (by omega)] | rw [if_neg (by omega)]) <;> first | rfl | omega) | ((repeat' split) <;> first | rfl | (exfalso; omega) | omega)
                                rw [← hs, chkP_st (k := k) (by omega), if_neg (by omega), if_neg (by omega), hb, htp], rfl, hR35, hEI47, hER48, hi38, hi39⟩)
                          · have c_382 : ¬ (¬ (nI (angN (tX f n E (fi f E (se f E k))))) = 0) := of_decide_eq_false c_382
                            have n_382 : angN (tX f n E (fi f E (se f E k))) = 0 := (eq_nI (p := angN (tX f n E (fi f E (se f E k)))) (n := 0) (Nat.lt_trans (le1_ang _) (by decide)) (by decide)).mp (Decidable.not_not.mp c_382)
                            refine ps_st (S' := (386, [(5, .int (nI s26)), (4, .int (nI s16)), (0, .ref m0), (1, .int (nI k)), (2, .int (nI p)), (3, .int (nI (by1 f p)))], [.int (nI (by1 f p))], M1)) rfl rfl rfl ?_
                            refine ps_st (S' := (388, [(5, .int (nI s26)), (4, .int (nI s16)), (0, .ref m0), (1, .int (nI k)), (2, .int (nI p)), (3, .int (nI (by1 f p)))], [.int 17, .int (nI (by1 f p))], M1)) rfl rfl rfl ?_
                            refine ps_if2 (S1 := (403, [(5, .int (nI s26)), (4, .int (nI s16)), (0, .ref m0), (1, .int (nI k)), (2, .int (nI p)), (3, .int (nI (by1 f p)))], [], M1)) (S2 := (391, [(5, .int (nI s26)), (4, .int (nI s16)), (0, .ref m0), (1, .int (nI k)), (2, .int (nI p)), (3, .int (nI (by1 f p)))], [], M1)) rfl rfl rfl (fun c_388 => ?_) (fun c_388 => ?_)
                            · exact absurd (of_decide_eq_true c_388) (fun h9 => h9 ((eq_nI (p := by1 f p) (n := 17) (Nat.lt_trans (by1_lt _ _) (by decide)) (by decide)).mpr (by omega)))
                            refine ps_st (S' := (392, [(5, .int (nI s26)), (4, .int (nI s16)), (0, .ref m0), (1, .int (nI k)), (2, .int (nI p)), (3, .int (nI (by1 f p)))], [.ref m0], M1)) rfl rfl rfl ?_
                            refine ps_st (S' := (394, [(5, .int (nI s26)), (4, .int (nI s16)), (0, .ref m0), (1, .int (nI k)), (2, .int (nI p)), (3, .int (nI (by1 f p)))], [.int (nI s26), .ref m0], M1)) rfl rfl rfl ?_
                            refine pl_call (a := [.ref m0, .int (nI s26)]) (rest := []) rfl rfl rfl (rd_isField (tx := tx) (cN := cN) (A := A) (s := s26) (l := (tX f n E (se f E (se f E k)))) hR1 hY1 (q371_s)) (fun v49 M50 q51 => ?_)
                            obtain ⟨rfl, rfl⟩ := q51
                            show pl _ _ _ (397, [(5, .int (nI s26)), (4, .int (nI s16)), (0, .ref m0), (1, .int (nI k)), (2, .int (nI p)), (3, .int (nI (by1 f p)))], [.int (nI (fldN (tX f n E (se f E (se f E k)))))], M1) _
                            refine ps_if (S1 := (412, [(0, .ref m0), (2, .int (nI p))], [], M1)) (S2 := (400, [(5, .int (nI s26)), (4, .int (nI s16)), (0, .ref m0), (1, .int (nI k)), (2, .int (nI p)), (3, .int (nI (by1 f p)))], [], M1)) rfl rfl rfl (fun c_397 => ?_) (fun c_397 => ?_)
                            · have c_397 : (nI (fldN (tX f n E (se f E (se f E k))))) = 0 := of_decide_eq_true c_397
                              have n_397 : fldN (tX f n E (se f E (se f E k))) = 0 := (eq_nI (p := fldN (tX f n E (se f E (se f E k)))) (n := 0) (Nat.lt_trans (le1_fld _) (by decide)) (by decide)).mp c_397
                              refine ps_st (S' := (413, [(0, .ref m0), (2, .int (nI p))], [.ref m0], M1)) rfl rfl rfl ?_
                              refine ps_st (S' := (415, [(0, .ref m0), (2, .int (nI p))], [.int 14, .ref m0], M1)) rfl rfl rfl ?_
                              refine ps_st (S' := (416, [(0, .ref m0), (2, .int (nI p))], [.int (nI p), .int 14, .ref m0], M1)) rfl rfl rfl ?_
                              refine pl_call (a := [.ref m0, .int 14, .int (nI p)]) (rest := []) rfl rfl rfl (rd_wrong (x1 := 14) (x2 := (nI p)) hR1) (fun v52 M53 q54 => ?_)
                              obtain ⟨I55, R56, rfl, hR57, hI58, hX59, hi60, hi61⟩ := q54
                              have hi62 := (hI58 51 (by decide)).trans hl51
                              have hi63 := (hI58 52 (by decide)).trans hl52
                              have hi64 := (hI58 53 (by decide)).trans hl53
                              have hi65 := (hI58 9 (by decide)).trans hl9
                              have hF_66 := hF1.mono (cIx hI58 (by decide)) (cRx hX59 (by decide))
                              have hY_67 := hY1.mono (cIx hI58 (by decide)) (cRx hX59 (by decide))
                              have hP_68 := hP1.mono (cIx hI58 (by decide)) (cRx hX59 (by decide))
                              have hEI69 := hEI1.tr hI58 (by decide)
                              have hER70 := hER1.tr hX59 (by decide)
                              show pl _ _ _ (419, [(0, .ref m0), (2, .int (nI p))], [.int 0], M53) _
                              exact ps_ret rfl rfl (Or.inr ⟨(14, p), I55, R56, by
                                  have hb : brkN f n E mj k = 14 := by
                                    have e12 := nwt_9 (f := f) (n := n) (E := E) (k := k)
                                    have e13 := mrf_9 (f := f) (n := n) (E := E) (k := k)
                                    unfold brkN
                                    first | ((repeat first | rw [if_pos (by omega)] | rw [if_neg (by omega)]) <;> first | rfl | omega) | ((repeat' split) <;> first | rfl | (exfalso; omega) | omega)
                                  rw [← hs, chkP_st (k := k) (by omega), if_neg (by omega), if_neg (by omega), hb, htp], rfl, hR57, hEI69, hER70, hi60, hi61⟩)
                            · have c_397 : ¬ ((nI (fldN (tX f n E (se f E (se f E k))))) = 0) := of_decide_eq_false c_397
                              have n_397 : ¬ (fldN (tX f n E (se f E (se f E k))) = 0) := fun h9 => c_397 ((eq_nI (p := fldN (tX f n E (se f E (se f E k)))) (n := 0) (Nat.lt_trans (le1_fld _) (by decide)) (by decide)).mpr h9)
                              refine ps_st (S' := (420, [(0, .ref m0), (1, .int (nI k))], [], M1)) rfl rfl rfl ?_
                              refine ps_st (S' := (423, [(1, .int ((nI k) + 1)), (0, .ref m0)], [], M1)) rfl rfl rfl ?_
                              rw [nI_add1 (p := k) (k := 1) (x := 1) rfl (by omega)]
                              show pl _ _ _ (_, [(1, .int (nI (k + 1))), (0, .ref m0)], [], M1) _
                              refine ps_st (S' := (2, [(0, .ref m0), (1, .int (nI (k + 1)))], [], M1)) rfl rfl rfl ?_
                              exact ih (k + 1) M1 I1 R1 hR1 hEI1 hER1 hl51 hl52 hl53 hl9 hF1 hY1 hP1 (by omega) (by
                                  have hb : brkN f n E mj k = 0 := by
                                    have e12 := nwt_9 (f := f) (n := n) (E := E) (k := k)
                                    have e13 := mrf_9 (f := f) (n := n) (E := E) (k := k)
                                    unfold brkN
                                    first | ((repeat first | rw [if_pos (by omega)] | rw [if_neg (by omega)]) <;> first | rfl | omega) | ((repeat' split) <;> first | rfl | (exfalso; omega) | omega)
                                  rw [← hs, chkP_st (k := k) (by omega), if_neg (by omega), if_pos hb])
                        · have c_333 : ¬ ((nI (by1 f p)) = 17) := of_decide_eq_false c_333
                          have n_333 : ¬ (by1 f p = 17) := fun h9 => c_333 ((eq_nI (p := by1 f p) (n := 17) (Nat.lt_trans (by1_lt _ _) (by decide)) (by decide)).mpr h9)
                          refine ps_st (S' := (337, [(0, .ref m0), (1, .int (nI k)), (2, .int (nI p)), (3, .int (nI (by1 f p)))], [.int (nI (by1 f p))], M1)) rfl rfl rfl ?_
                          refine ps_st (S' := (339, [(0, .ref m0), (1, .int (nI k)), (2, .int (nI p)), (3, .int (nI (by1 f p)))], [.int 18, .int (nI (by1 f p))], M1)) rfl rfl rfl ?_
                          refine ps_if2 (S1 := (420, [(0, .ref m0), (1, .int (nI k))], [], M1)) (S2 := (342, [(0, .ref m0), (1, .int (nI k)), (2, .int (nI p)), (3, .int (nI (by1 f p)))], [], M1)) rfl rfl rfl (fun c_339 => ?_) (fun c_339 => ?_)
                          · have c_339 : ¬ (nI (by1 f p)) = 18 := of_decide_eq_true c_339
                            have n_339 : ¬ (by1 f p = 18) := fun h9 => c_339 ((eq_nI (p := by1 f p) (n := 18) (Nat.lt_trans (by1_lt _ _) (by decide)) (by decide)).mpr h9)
                            refine ps_st (S' := (423, [(1, .int ((nI k) + 1)), (0, .ref m0)], [], M1)) rfl rfl rfl ?_
                            rw [nI_add1 (p := k) (k := 1) (x := 1) rfl (by omega)]
                            show pl _ _ _ (_, [(1, .int (nI (k + 1))), (0, .ref m0)], [], M1) _
                            refine ps_st (S' := (2, [(0, .ref m0), (1, .int (nI (k + 1)))], [], M1)) rfl rfl rfl ?_
                            exact ih (k + 1) M1 I1 R1 hR1 hEI1 hER1 hl51 hl52 hl53 hl9 hF1 hY1 hP1 (by omega) (by
                                have hb : brkN f n E mj k = 0 := by
                                  have e12 := nwt_9 (f := f) (n := n) (E := E) (k := k)
                                  have e13 := mrf_9 (f := f) (n := n) (E := E) (k := k)
                                  unfold brkN
                                  first | ((repeat first | rw [if_pos (by omega)] | rw [if_neg (by omega)]) <;> first | rfl | omega) | ((repeat' split) <;> first | rfl | (exfalso; omega) | omega)
                                rw [← hs, chkP_st (k := k) (by omega), if_neg (by omega), if_pos hb])
                          · have c_339 : ¬ (¬ (nI (by1 f p)) = 18) := of_decide_eq_false c_339
                            have n_339 : by1 f p = 18 := (eq_nI (p := by1 f p) (n := 18) (Nat.lt_trans (by1_lt _ _) (by decide)) (by decide)).mp (Decidable.not_not.mp c_339)
                            refine ps_st (S' := (343, [(0, .ref m0), (1, .int (nI k)), (2, .int (nI p)), (3, .int (nI (by1 f p)))], [.ref m0], M1)) rfl rfl rfl ?_
                            refine ps_st (S' := (344, [(0, .ref m0), (1, .int (nI k)), (2, .int (nI p)), (3, .int (nI (by1 f p)))], [.ref m0, .ref m0], M1)) rfl rfl rfl ?_
                            refine ps_st (S' := (345, [(0, .ref m0), (1, .int (nI k)), (2, .int (nI p)), (3, .int (nI (by1 f p)))], [.ref m0, .ref m0, .ref m0], M1)) rfl rfl rfl ?_
                            refine ps_st (S' := (346, [(0, .ref m0), (1, .int (nI k)), (2, .int (nI p)), (3, .int (nI (by1 f p)))], [.int (nI k), .ref m0, .ref m0, .ref m0], M1)) rfl rfl rfl ?_
                            refine ps_st (S' := (347, [(0, .ref m0), (1, .int (nI k)), (2, .int (nI p)), (3, .int (nI (by1 f p)))], [.int 3, .int (nI k), .ref m0, .ref m0, .ref m0], M1)) rfl rfl rfl ?_
                            refine pl_call (a := [.ref m0, .int (nI k), .int 3]) (rest := [.ref m0, .ref m0]) rfl rfl rfl (rd_idx3 (n := n) (f := f) (tx := tx) (cN := cN) (A := A) (N := N) (mj := mj) (E := E) (k := k) hR1 hl51 hl52 hl53 hF1 hY1 hP1 (hEP) (hN) (hmj) (by omega)) (fun v71 M72 q73 => ?_)
                            obtain ⟨rfl, rfl⟩ := q73
                            show pl _ _ _ (350, [(0, .ref m0), (1, .int (nI k)), (2, .int (nI p)), (3, .int (nI (by1 f p)))], [.int (nI (se f E k)), .ref m0, .ref m0], M1) _
                            have hix_347 := se_lt f E k
                            refine ps_st (S' := (351, [(0, .ref m0), (1, .int (nI k)), (2, .int (nI p)), (3, .int (nI (by1 f p)))], [.int 1, .int (nI (se f E k)), .ref m0, .ref m0], M1)) rfl rfl rfl ?_
                            refine pl_call (a := [.ref m0, .int (nI (se f E k)), .int 1]) (rest := [.ref m0]) rfl rfl rfl (rd_idx1 (n := n) (f := f) (tx := tx) (cN := cN) (A := A) (N := N) (mj := mj) (E := E) (k := (se f E k)) hR1 hl51 hl52 hl53 hF1 hY1 hP1 (hEP) (hN) (hmj) (by omega)) (fun v74 M75 q76 => ?_)
                            obtain ⟨rfl, rfl⟩ := q76
                            show pl _ _ _ (354, [(0, .ref m0), (1, .int (nI k)), (2, .int (nI p)), (3, .int (nI (by1 f p)))], [.int (nI (fi f E (se f E k))), .ref m0], M1) _
                            have hix_351 := fi_lt f E (se f E k)
                            refine pl_call (a := [.ref m0, .int (nI (fi f E (se f E k)))]) (rest := []) rfl rfl rfl (rd_symOf (n := n) (f := f) (tx := tx) (cN := cN) (A := A) (N := N) (mj := mj) (E := E) (k := (fi f E (se f E k))) hR1 hl51 hl52 hl53 hF1 hY1 hP1 (hEP) (hN) (hmj) (by omega)) (fun v77 M78 q79 => ?_)
                            obtain ⟨s80, q354_s, rfl, rfl⟩ := q79
                            show pl _ _ _ (357, [(0, .ref m0), (1, .int (nI k)), (2, .int (nI p)), (3, .int (nI (by1 f p)))], [.int (nI s80)], M1) _
                            have hsl_354 := q354_s.1
                            have htl_354 := hY1.1.2.2.1
                            refine ps_st (S' := (359, [(4, .int (nI s80)), (0, .ref m0), (1, .int (nI k)), (2, .int (nI p)), (3, .int (nI (by1 f p)))], [], M1)) rfl rfl rfl ?_
                            refine ps_st (S' := (360, [(4, .int (nI s80)), (0, .ref m0), (1, .int (nI k)), (2, .int (nI p)), (3, .int (nI (by1 f p)))], [.ref m0], M1)) rfl rfl rfl ?_
                            refine ps_st (S' := (361, [(4, .int (nI s80)), (0, .ref m0), (1, .int (nI k)), (2, .int (nI p)), (3, .int (nI (by1 f p)))], [.ref m0, .ref m0], M1)) rfl rfl rfl ?_
                            refine ps_st (S' := (362, [(4, .int (nI s80)), (0, .ref m0), (1, .int (nI k)), (2, .int (nI p)), (3, .int (nI (by1 f p)))], [.ref m0, .ref m0, .ref m0], M1)) rfl rfl rfl ?_
                            refine ps_st (S' := (363, [(4, .int (nI s80)), (0, .ref m0), (1, .int (nI k)), (2, .int (nI p)), (3, .int (nI (by1 f p)))], [.int (nI k), .ref m0, .ref m0, .ref m0], M1)) rfl rfl rfl ?_
                            refine ps_st (S' := (364, [(4, .int (nI s80)), (0, .ref m0), (1, .int (nI k)), (2, .int (nI p)), (3, .int (nI (by1 f p)))], [.int 3, .int (nI k), .ref m0, .ref m0, .ref m0], M1)) rfl rfl rfl ?_
                            refine pl_call (a := [.ref m0, .int (nI k), .int 3]) (rest := [.ref m0, .ref m0]) rfl rfl rfl (rd_idx3 (n := n) (f := f) (tx := tx) (cN := cN) (A := A) (N := N) (mj := mj) (E := E) (k := k) hR1 hl51 hl52 hl53 hF1 hY1 hP1 (hEP) (hN) (hmj) (by omega)) (fun v81 M82 q83 => ?_)
                            obtain ⟨rfl, rfl⟩ := q83
                            show pl _ _ _ (367, [(4, .int (nI s80)), (0, .ref m0), (1, .int (nI k)), (2, .int (nI p)), (3, .int (nI (by1 f p)))], [.int (nI (se f E k)), .ref m0, .ref m0], M1) _
                            have hix_364 := se_lt f E k
                            refine ps_st (S' := (368, [(4, .int (nI s80)), (0, .ref m0), (1, .int (nI k)), (2, .int (nI p)), (3, .int (nI (by1 f p)))], [.int 3, .int (nI (se f E k)), .ref m0, .ref m0], M1)) rfl rfl rfl ?_
                            refine pl_call (a := [.ref m0, .int (nI (se f E k)), .int 3]) (rest := [.ref m0]) rfl rfl rfl (rd_idx3 (n := n) (f := f) (tx := tx) (cN := cN) (A := A) (N := N) (mj := mj) (E := E) (k := (se f E k)) hR1 hl51 hl52 hl53 hF1 hY1 hP1 (hEP) (hN) (hmj) (by omega)) (fun v84 M85 q86 => ?_)
                            obtain ⟨rfl, rfl⟩ := q86
                            show pl _ _ _ (371, [(4, .int (nI s80)), (0, .ref m0), (1, .int (nI k)), (2, .int (nI p)), (3, .int (nI (by1 f p)))], [.int (nI (se f E (se f E k))), .ref m0], M1) _
                            have hix_368 := se_lt f E (se f E k)
                            refine pl_call (a := [.ref m0, .int (nI (se f E (se f E k)))]) (rest := []) rfl rfl rfl (rd_symOf (n := n) (f := f) (tx := tx) (cN := cN) (A := A) (N := N) (mj := mj) (E := E) (k := (se f E (se f E k))) hR1 hl51 hl52 hl53 hF1 hY1 hP1 (hEP) (hN) (hmj) (by omega)) (fun v87 M88 q89 => ?_)
                            obtain ⟨s90, q371_s, rfl, rfl⟩ := q89
                            show pl _ _ _ (374, [(4, .int (nI s80)), (0, .ref m0), (1, .int (nI k)), (2, .int (nI p)), (3, .int (nI (by1 f p)))], [.int (nI s90)], M1) _
                            have hsl_371 := q371_s.1
                            have htl_371 := hY1.1.2.2.1
                            refine ps_st (S' := (376, [(5, .int (nI s90)), (4, .int (nI s80)), (0, .ref m0), (1, .int (nI k)), (2, .int (nI p)), (3, .int (nI (by1 f p)))], [], M1)) rfl rfl rfl ?_
                            refine ps_st (S' := (377, [(5, .int (nI s90)), (4, .int (nI s80)), (0, .ref m0), (1, .int (nI k)), (2, .int (nI p)), (3, .int (nI (by1 f p)))], [.ref m0], M1)) rfl rfl rfl ?_
                            refine ps_st (S' := (379, [(5, .int (nI s90)), (4, .int (nI s80)), (0, .ref m0), (1, .int (nI k)), (2, .int (nI p)), (3, .int (nI (by1 f p)))], [.int (nI s80), .ref m0], M1)) rfl rfl rfl ?_
                            refine pl_call (a := [.ref m0, .int (nI s80)]) (rest := []) rfl rfl rfl (rd_angles (tx := tx) (cN := cN) (A := A) (s := s80) (l := (tX f n E (fi f E (se f E k)))) hR1 hY1 (q354_s)) (fun v91 M92 q93 => ?_)
                            obtain ⟨rfl, rfl⟩ := q93
                            show pl _ _ _ (382, [(5, .int (nI s90)), (4, .int (nI s80)), (0, .ref m0), (1, .int (nI k)), (2, .int (nI p)), (3, .int (nI (by1 f p)))], [.int (nI (angN (tX f n E (fi f E (se f E k)))))], M1) _
                            refine ps_if (S1 := (412, [(0, .ref m0), (2, .int (nI p))], [], M1)) (S2 := (385, [(5, .int (nI s90)), (4, .int (nI s80)), (0, .ref m0), (1, .int (nI k)), (2, .int (nI p)), (3, .int (nI (by1 f p)))], [], M1)) rfl rfl rfl (fun c_382 => ?_) (fun c_382 => ?_)
                            · have c_382 : ¬ (nI (angN (tX f n E (fi f E (se f E k))))) = 0 := of_decide_eq_true c_382
                              have n_382 : ¬ (angN (tX f n E (fi f E (se f E k))) = 0) := fun h9 => c_382 ((eq_nI (p := angN (tX f n E (fi f E (se f E k)))) (n := 0) (Nat.lt_trans (le1_ang _) (by decide)) (by decide)).mpr h9)
                              refine ps_st (S' := (413, [(0, .ref m0), (2, .int (nI p))], [.ref m0], M1)) rfl rfl rfl ?_
                              refine ps_st (S' := (415, [(0, .ref m0), (2, .int (nI p))], [.int 14, .ref m0], M1)) rfl rfl rfl ?_
                              refine ps_st (S' := (416, [(0, .ref m0), (2, .int (nI p))], [.int (nI p), .int 14, .ref m0], M1)) rfl rfl rfl ?_
                              refine pl_call (a := [.ref m0, .int 14, .int (nI p)]) (rest := []) rfl rfl rfl (rd_wrong (x1 := 14) (x2 := (nI p)) hR1) (fun v94 M95 q96 => ?_)
                              obtain ⟨I97, R98, rfl, hR99, hI100, hX101, hi102, hi103⟩ := q96
                              have hi104 := (hI100 51 (by decide)).trans hl51
                              have hi105 := (hI100 52 (by decide)).trans hl52
                              have hi106 := (hI100 53 (by decide)).trans hl53
                              have hi107 := (hI100 9 (by decide)).trans hl9
                              have hF_108 := hF1.mono (cIx hI100 (by decide)) (cRx hX101 (by decide))
                              have hY_109 := hY1.mono (cIx hI100 (by decide)) (cRx hX101 (by decide))
                              have hP_110 := hP1.mono (cIx hI100 (by decide)) (cRx hX101 (by decide))
                              have hEI111 := hEI1.tr hI100 (by decide)
                              have hER112 := hER1.tr hX101 (by decide)
                              show pl _ _ _ (419, [(0, .ref m0), (2, .int (nI p))], [.int 0], M95) _
                              exact ps_ret rfl rfl (Or.inr ⟨(14, p), I97, R98, by
                                  have hb : brkN f n E mj k = 14 := by
                                    have e12 := nwt_9 (f := f) (n := n) (E := E) (k := k)
                                    have e13 := mrf_9 (f := f) (n := n) (E := E) (k := k)
                                    unfold brkN
                                    first | ((repeat first | rw [if_pos (by omega)] | rw [if_neg (by omega)]) <;> first | rfl | omega) | ((repeat' split) <;> first | rfl | (exfalso; omega) | omega)
                                  rw [← hs, chkP_st (k := k) (by omega), if_neg (by omega), if_neg (by omega), hb, htp], rfl, hR99, hEI111, hER112, hi102, hi103⟩)
                            · have c_382 : ¬ (¬ (nI (angN (tX f n E (fi f E (se f E k))))) = 0) := of_decide_eq_false c_382
                              have n_382 : angN (tX f n E (fi f E (se f E k))) = 0 := (eq_nI (p := angN (tX f n E (fi f E (se f E k)))) (n := 0) (Nat.lt_trans (le1_ang _) (by decide)) (by decide)).mp (Decidable.not_not.mp c_382)
                              refine ps_st (S' := (386, [(5, .int (nI s90)), (4, .int (nI s80)), (0, .ref m0), (1, .int (nI k)), (2, .int (nI p)), (3, .int (nI (by1 f p)))], [.int (nI (by1 f p))], M1)) rfl rfl rfl ?_
                              refine ps_st (S' := (388, [(5, .int (nI s90)), (4, .int (nI s80)), (0, .ref m0), (1, .int (nI k)), (2, .int (nI p)), (3, .int (nI (by1 f p)))], [.int 17, .int (nI (by1 f p))], M1)) rfl rfl rfl ?_
                              refine ps_if2 (S1 := (403, [(5, .int (nI s90)), (4, .int (nI s80)), (0, .ref m0), (1, .int (nI k)), (2, .int (nI p)), (3, .int (nI (by1 f p)))], [], M1)) (S2 := (391, [(5, .int (nI s90)), (4, .int (nI s80)), (0, .ref m0), (1, .int (nI k)), (2, .int (nI p)), (3, .int (nI (by1 f p)))], [], M1)) rfl rfl rfl (fun c_388 => ?_) (fun c_388 => ?_)
                              rotate_left
                              · exact absurd (show ¬ ((nI (by1 f p)) = 17) from fun h9 => absurd ((eq_nI (p := by1 f p) (n := 17) (Nat.lt_trans (by1_lt _ _) (by decide)) (by decide)).mp h9) (by omega)) (of_decide_eq_false c_388)
                              refine ps_st (S' := (404, [(5, .int (nI s90)), (4, .int (nI s80)), (0, .ref m0), (1, .int (nI k)), (2, .int (nI p)), (3, .int (nI (by1 f p)))], [.ref m0], M1)) rfl rfl rfl ?_
                              refine ps_st (S' := (406, [(5, .int (nI s90)), (4, .int (nI s80)), (0, .ref m0), (1, .int (nI k)), (2, .int (nI p)), (3, .int (nI (by1 f p)))], [.int (nI s90), .ref m0], M1)) rfl rfl rfl ?_
                              refine pl_call (a := [.ref m0, .int (nI s90)]) (rest := []) rfl rfl rfl (rd_isMethod (tx := tx) (cN := cN) (A := A) (s := s90) (l := (tX f n E (se f E (se f E k)))) hR1 hY1 (q371_s)) (fun v113 M114 q115 => ?_)
                              obtain ⟨rfl, rfl⟩ := q115
                              show pl _ _ _ (409, [(5, .int (nI s90)), (4, .int (nI s80)), (0, .ref m0), (1, .int (nI k)), (2, .int (nI p)), (3, .int (nI (by1 f p)))], [.int (nI (mthN (tX f n E (se f E (se f E k)))))], M1) _
                              refine ps_if (S1 := (420, [(0, .ref m0), (1, .int (nI k))], [], M1)) (S2 := (412, [(0, .ref m0), (2, .int (nI p))], [], M1)) rfl rfl rfl (fun c_409 => ?_) (fun c_409 => ?_)
                              · have c_409 : ¬ (nI (mthN (tX f n E (se f E (se f E k))))) = 0 := of_decide_eq_true c_409
                                have n_409 : ¬ (mthN (tX f n E (se f E (se f E k))) = 0) := fun h9 => c_409 ((eq_nI (p := mthN (tX f n E (se f E (se f E k)))) (n := 0) (Nat.lt_trans (le1_mth _) (by decide)) (by decide)).mpr h9)
                                refine ps_st (S' := (423, [(1, .int ((nI k) + 1)), (0, .ref m0)], [], M1)) rfl rfl rfl ?_
                                rw [nI_add1 (p := k) (k := 1) (x := 1) rfl (by omega)]
                                show pl _ _ _ (_, [(1, .int (nI (k + 1))), (0, .ref m0)], [], M1) _
                                refine ps_st (S' := (2, [(0, .ref m0), (1, .int (nI (k + 1)))], [], M1)) rfl rfl rfl ?_
                                exact ih (k + 1) M1 I1 R1 hR1 hEI1 hER1 hl51 hl52 hl53 hl9 hF1 hY1 hP1 (by omega) (by
                                    have hb : brkN f n E mj k = 0 := by
                                      have e12 := nwt_9 (f := f) (n := n) (E := E) (k := k)
                                      have e13 := mrf_9 (f := f) (n := n) (E := E) (k := k)
                                      unfold brkN
                                      first | ((repeat first | rw [if_pos (by omega)] | rw [if_neg (by omega)]) <;> first | rfl | omega) | ((repeat' split) <;> first | rfl | (exfalso; omega) | omega)
                                    rw [← hs, chkP_st (k := k) (by omega), if_neg (by omega), if_pos hb])
                              · have c_409 : ¬ (¬ (nI (mthN (tX f n E (se f E (se f E k))))) = 0) := of_decide_eq_false c_409
                                have n_409 : mthN (tX f n E (se f E (se f E k))) = 0 := (eq_nI (p := mthN (tX f n E (se f E (se f E k)))) (n := 0) (Nat.lt_trans (le1_mth _) (by decide)) (by decide)).mp (Decidable.not_not.mp c_409)
                                refine ps_st (S' := (413, [(0, .ref m0), (2, .int (nI p))], [.ref m0], M1)) rfl rfl rfl ?_
                                refine ps_st (S' := (415, [(0, .ref m0), (2, .int (nI p))], [.int 14, .ref m0], M1)) rfl rfl rfl ?_
                                refine ps_st (S' := (416, [(0, .ref m0), (2, .int (nI p))], [.int (nI p), .int 14, .ref m0], M1)) rfl rfl rfl ?_
                                refine pl_call (a := [.ref m0, .int 14, .int (nI p)]) (rest := []) rfl rfl rfl (rd_wrong (x1 := 14) (x2 := (nI p)) hR1) (fun v116 M117 q118 => ?_)
                                obtain ⟨I119, R120, rfl, hR121, hI122, hX123, hi124, hi125⟩ := q118
                                have hi126 := (hI122 51 (by decide)).trans hl51
                                have hi127 := (hI122 52 (by decide)).trans hl52
                                have hi128 := (hI122 53 (by decide)).trans hl53
                                have hi129 := (hI122 9 (by decide)).trans hl9
                                have hF_130 := hF1.mono (cIx hI122 (by decide)) (cRx hX123 (by decide))
                                have hY_131 := hY1.mono (cIx hI122 (by decide)) (cRx hX123 (by decide))
                                have hP_132 := hP1.mono (cIx hI122 (by decide)) (cRx hX123 (by decide))
                                have hEI133 := hEI1.tr hI122 (by decide)
                                have hER134 := hER1.tr hX123 (by decide)
                                show pl _ _ _ (419, [(0, .ref m0), (2, .int (nI p))], [.int 0], M117) _
                                exact ps_ret rfl rfl (Or.inr ⟨(14, p), I119, R120, by
                                    have hb : brkN f n E mj k = 14 := by
                                      have e12 := nwt_9 (f := f) (n := n) (E := E) (k := k)
                                      have e13 := mrf_9 (f := f) (n := n) (E := E) (k := k)
                                      unfold brkN
                                      first | ((repeat first | rw [if_pos (by omega)] | rw [if_neg (by omega)]) <;> first | rfl | omega) | ((repeat' split) <;> first | rfl | (exfalso; omega) | omega)
                                    rw [← hs, chkP_st (k := k) (by omega), if_neg (by omega), if_neg (by omega), hb, htp], rfl, hR121, hEI133, hER134, hi124, hi125⟩)
                      · have c_302 : ¬ (¬ (nI (by1 f p)) = 16) := of_decide_eq_false c_302
                        have n_302 : by1 f p = 16 := (eq_nI (p := by1 f p) (n := 16) (Nat.lt_trans (by1_lt _ _) (by decide)) (by decide)).mp (Decidable.not_not.mp c_302)
                        refine ps_st (S' := (306, [(0, .ref m0), (1, .int (nI k)), (2, .int (nI p)), (3, .int (nI (by1 f p)))], [.ref m0], M1)) rfl rfl rfl ?_
                        refine ps_st (S' := (307, [(0, .ref m0), (1, .int (nI k)), (2, .int (nI p)), (3, .int (nI (by1 f p)))], [.ref m0, .ref m0], M1)) rfl rfl rfl ?_
                        refine ps_st (S' := (308, [(0, .ref m0), (1, .int (nI k)), (2, .int (nI p)), (3, .int (nI (by1 f p)))], [.ref m0, .ref m0, .ref m0], M1)) rfl rfl rfl ?_
                        refine ps_st (S' := (309, [(0, .ref m0), (1, .int (nI k)), (2, .int (nI p)), (3, .int (nI (by1 f p)))], [.int (nI k), .ref m0, .ref m0, .ref m0], M1)) rfl rfl rfl ?_
                        refine ps_st (S' := (310, [(0, .ref m0), (1, .int (nI k)), (2, .int (nI p)), (3, .int (nI (by1 f p)))], [.int 1, .int (nI k), .ref m0, .ref m0, .ref m0], M1)) rfl rfl rfl ?_
                        refine pl_call (a := [.ref m0, .int (nI k), .int 1]) (rest := [.ref m0, .ref m0]) rfl rfl rfl (rd_idx1 (n := n) (f := f) (tx := tx) (cN := cN) (A := A) (N := N) (mj := mj) (E := E) (k := k) hR1 hl51 hl52 hl53 hF1 hY1 hP1 (hEP) (hN) (hmj) (by omega)) (fun v135 M136 q137 => ?_)
                        obtain ⟨rfl, rfl⟩ := q137
                        show pl _ _ _ (313, [(0, .ref m0), (1, .int (nI k)), (2, .int (nI p)), (3, .int (nI (by1 f p)))], [.int (nI (fi f E k)), .ref m0, .ref m0], M1) _
                        have hix_310 := fi_lt f E k
                        refine pl_call (a := [.ref m0, .int (nI (fi f E k))]) (rest := [.ref m0]) rfl rfl rfl (rd_symOf (n := n) (f := f) (tx := tx) (cN := cN) (A := A) (N := N) (mj := mj) (E := E) (k := (fi f E k)) hR1 hl51 hl52 hl53 hF1 hY1 hP1 (hEP) (hN) (hmj) (by omega)) (fun v138 M139 q140 => ?_)
                        obtain ⟨s141, q313_s, rfl, rfl⟩ := q140
                        show pl _ _ _ (316, [(0, .ref m0), (1, .int (nI k)), (2, .int (nI p)), (3, .int (nI (by1 f p)))], [.int (nI s141), .ref m0], M1) _
                        have hsl_313 := q313_s.1
                        have htl_313 := hY1.1.2.2.1
                        refine pl_call (a := [.ref m0, .int (nI s141)]) (rest := []) rfl rfl rfl (rd_isMethod (tx := tx) (cN := cN) (A := A) (s := s141) (l := (tX f n E (fi f E k))) hR1 hY1 (q313_s)) (fun v142 M143 q144 => ?_)
                        obtain ⟨rfl, rfl⟩ := q144
                        show pl _ _ _ (319, [(0, .ref m0), (1, .int (nI k)), (2, .int (nI p)), (3, .int (nI (by1 f p)))], [.int (nI (mthN (tX f n E (fi f E k))))], M1) _
                        refine ps_if (S1 := (330, [(0, .ref m0), (1, .int (nI k)), (2, .int (nI p)), (3, .int (nI (by1 f p)))], [], M1)) (S2 := (322, [(0, .ref m0), (1, .int (nI k)), (2, .int (nI p)), (3, .int (nI (by1 f p)))], [], M1)) rfl rfl rfl (fun c_319 => ?_) (fun c_319 => ?_)
                        · have c_319 : ¬ (nI (mthN (tX f n E (fi f E k)))) = 0 := of_decide_eq_true c_319
                          have n_319 : ¬ (mthN (tX f n E (fi f E k)) = 0) := fun h9 => c_319 ((eq_nI (p := mthN (tX f n E (fi f E k))) (n := 0) (Nat.lt_trans (le1_mth _) (by decide)) (by decide)).mpr h9)
                          refine ps_st (S' := (331, [(0, .ref m0), (1, .int (nI k)), (2, .int (nI p)), (3, .int (nI (by1 f p)))], [.int (nI (by1 f p))], M1)) rfl rfl rfl ?_
                          refine ps_st (S' := (333, [(0, .ref m0), (1, .int (nI k)), (2, .int (nI p)), (3, .int (nI (by1 f p)))], [.int 17, .int (nI (by1 f p))], M1)) rfl rfl rfl ?_
                          refine ps_if2 (S1 := (342, [(0, .ref m0), (1, .int (nI k)), (2, .int (nI p)), (3, .int (nI (by1 f p)))], [], M1)) (S2 := (336, [(0, .ref m0), (1, .int (nI k)), (2, .int (nI p)), (3, .int (nI (by1 f p)))], [], M1)) rfl rfl rfl (fun c_333 => ?_) (fun c_333 => ?_)
                          · exact absurd (of_decide_eq_true c_333) (show ¬ ((nI (by1 f p)) = 17) from fun h9 => absurd ((eq_nI (p := by1 f p) (n := 17) (Nat.lt_trans (by1_lt _ _) (by decide)) (by decide)).mp h9) (by omega))
                          refine ps_st (S' := (337, [(0, .ref m0), (1, .int (nI k)), (2, .int (nI p)), (3, .int (nI (by1 f p)))], [.int (nI (by1 f p))], M1)) rfl rfl rfl ?_
                          refine ps_st (S' := (339, [(0, .ref m0), (1, .int (nI k)), (2, .int (nI p)), (3, .int (nI (by1 f p)))], [.int 18, .int (nI (by1 f p))], M1)) rfl rfl rfl ?_
                          refine ps_if2 (S1 := (420, [(0, .ref m0), (1, .int (nI k))], [], M1)) (S2 := (342, [(0, .ref m0), (1, .int (nI k)), (2, .int (nI p)), (3, .int (nI (by1 f p)))], [], M1)) rfl rfl rfl (fun c_339 => ?_) (fun c_339 => ?_)
                          rotate_left
                          · exact absurd (show ¬ ((nI (by1 f p)) = 18) from fun h9 => absurd ((eq_nI (p := by1 f p) (n := 18) (Nat.lt_trans (by1_lt _ _) (by decide)) (by decide)).mp h9) (by omega)) (of_decide_eq_false c_339)
                          refine ps_st (S' := (423, [(1, .int ((nI k) + 1)), (0, .ref m0)], [], M1)) rfl rfl rfl ?_
                          rw [nI_add1 (p := k) (k := 1) (x := 1) rfl (by omega)]
                          show pl _ _ _ (_, [(1, .int (nI (k + 1))), (0, .ref m0)], [], M1) _
                          refine ps_st (S' := (2, [(0, .ref m0), (1, .int (nI (k + 1)))], [], M1)) rfl rfl rfl ?_
                          exact ih (k + 1) M1 I1 R1 hR1 hEI1 hER1 hl51 hl52 hl53 hl9 hF1 hY1 hP1 (by omega) (by
                              have hb : brkN f n E mj k = 0 := by
                                have e12 := nwt_9 (f := f) (n := n) (E := E) (k := k)
                                have e13 := mrf_9 (f := f) (n := n) (E := E) (k := k)
                                unfold brkN
                                first | ((repeat first | rw [if_pos (by omega)] | rw [if_neg (by omega)]) <;> first | rfl | omega) | ((repeat' split) <;> first | rfl | (exfalso; omega) | omega)
                              rw [← hs, chkP_st (k := k) (by omega), if_neg (by omega), if_pos hb])
                        · have c_319 : ¬ (¬ (nI (mthN (tX f n E (fi f E k)))) = 0) := of_decide_eq_false c_319
                          have n_319 : mthN (tX f n E (fi f E k)) = 0 := (eq_nI (p := mthN (tX f n E (fi f E k))) (n := 0) (Nat.lt_trans (le1_mth _) (by decide)) (by decide)).mp (Decidable.not_not.mp c_319)
                          refine ps_st (S' := (323, [(0, .ref m0), (1, .int (nI k)), (2, .int (nI p)), (3, .int (nI (by1 f p)))], [.ref m0], M1)) rfl rfl rfl ?_
                          refine ps_st (S' := (325, [(0, .ref m0), (1, .int (nI k)), (2, .int (nI p)), (3, .int (nI (by1 f p)))], [.int 14, .ref m0], M1)) rfl rfl rfl ?_
                          refine ps_st (S' := (326, [(0, .ref m0), (1, .int (nI k)), (2, .int (nI p)), (3, .int (nI (by1 f p)))], [.int (nI p), .int 14, .ref m0], M1)) rfl rfl rfl ?_
                          refine pl_call (a := [.ref m0, .int 14, .int (nI p)]) (rest := []) rfl rfl rfl (rd_wrong (x1 := 14) (x2 := (nI p)) hR1) (fun v145 M146 q147 => ?_)
                          obtain ⟨I148, R149, rfl, hR150, hI151, hX152, hi153, hi154⟩ := q147
                          have hi155 := (hI151 51 (by decide)).trans hl51
                          have hi156 := (hI151 52 (by decide)).trans hl52
                          have hi157 := (hI151 53 (by decide)).trans hl53
                          have hi158 := (hI151 9 (by decide)).trans hl9
                          have hF_159 := hF1.mono (cIx hI151 (by decide)) (cRx hX152 (by decide))
                          have hY_160 := hY1.mono (cIx hI151 (by decide)) (cRx hX152 (by decide))
                          have hP_161 := hP1.mono (cIx hI151 (by decide)) (cRx hX152 (by decide))
                          have hEI162 := hEI1.tr hI151 (by decide)
                          have hER163 := hER1.tr hX152 (by decide)
                          show pl _ _ _ (329, [(0, .ref m0), (1, .int (nI k)), (2, .int (nI p)), (3, .int (nI (by1 f p)))], [.int 0], M146) _
                          exact ps_ret rfl rfl (Or.inr ⟨(14, p), I148, R149, by
                              have hb : brkN f n E mj k = 14 := by
                                have e12 := nwt_9 (f := f) (n := n) (E := E) (k := k)
                                have e13 := mrf_9 (f := f) (n := n) (E := E) (k := k)
                                unfold brkN
                                first | ((repeat first | rw [if_pos (by omega)] | rw [if_neg (by omega)]) <;> first | rfl | omega) | ((repeat' split) <;> first | rfl | (exfalso; omega) | omega)
                              rw [← hs, chkP_st (k := k) (by omega), if_neg (by omega), if_neg (by omega), hb, htp], rfl, hR150, hEI162, hER163, hi153, hi154⟩)
                    · have c_280 : ¬ (¬ (nI (by1 f p)) = 15) := of_decide_eq_false c_280
                      have n_280 : by1 f p = 15 := (eq_nI (p := by1 f p) (n := 15) (Nat.lt_trans (by1_lt _ _) (by decide)) (by decide)).mp (Decidable.not_not.mp c_280)
                      refine ps_st (S' := (284, [(0, .ref m0), (1, .int (nI k)), (2, .int (nI p)), (3, .int (nI (by1 f p)))], [.ref m0], M1)) rfl rfl rfl ?_
                      refine ps_st (S' := (285, [(0, .ref m0), (1, .int (nI k)), (2, .int (nI p)), (3, .int (nI (by1 f p)))], [.int (nI k), .ref m0], M1)) rfl rfl rfl ?_
                      refine pl_call (a := [.ref m0, .int (nI k)]) (rest := []) rfl rfl rfl (rd_handleEntry (n := n) (f := f) (tx := tx) (cN := cN) (A := A) (N := N) (mj := mj) (E := E) (s1 := s1) (k := k) hR1 hl51 hl52 hl53 hl9 hF1 hY1 hP1 (hEP) (hN) (hmj) (hs1) (by omega) (by omega)) (fun v164 M165 q166 => ?_)
                      obtain ⟨rfl, rfl⟩ := q166
                      show pl _ _ _ (288, [(0, .ref m0), (1, .int (nI k)), (2, .int (nI p)), (3, .int (nI (by1 f p)))], [.int (nI (hdlN f n E mj (fi f E k) (se f E k)))], M1) _
                      refine ps_if (S1 := (299, [(0, .ref m0), (1, .int (nI k)), (2, .int (nI p)), (3, .int (nI (by1 f p)))], [], M1)) (S2 := (291, [(0, .ref m0), (1, .int (nI k)), (2, .int (nI p)), (3, .int (nI (by1 f p)))], [], M1)) rfl rfl rfl (fun c_288 => ?_) (fun c_288 => ?_)
                      · have c_288 : ¬ (nI (hdlN f n E mj (fi f E k) (se f E k))) = 0 := of_decide_eq_true c_288
                        have n_288 : ¬ (hdlN f n E mj (fi f E k) (se f E k) = 0) := fun h9 => c_288 ((eq_nI (p := hdlN f n E mj (fi f E k) (se f E k)) (n := 0) (Nat.lt_trans (le1_hdl _ _ _ _ _ _) (by decide)) (by decide)).mpr h9)
                        refine ps_st (S' := (300, [(0, .ref m0), (1, .int (nI k)), (2, .int (nI p)), (3, .int (nI (by1 f p)))], [.int (nI (by1 f p))], M1)) rfl rfl rfl ?_
                        refine ps_st (S' := (302, [(0, .ref m0), (1, .int (nI k)), (2, .int (nI p)), (3, .int (nI (by1 f p)))], [.int 16, .int (nI (by1 f p))], M1)) rfl rfl rfl ?_
                        refine ps_if2 (S1 := (330, [(0, .ref m0), (1, .int (nI k)), (2, .int (nI p)), (3, .int (nI (by1 f p)))], [], M1)) (S2 := (305, [(0, .ref m0), (1, .int (nI k)), (2, .int (nI p)), (3, .int (nI (by1 f p)))], [], M1)) rfl rfl rfl (fun c_302 => ?_) (fun c_302 => ?_)
                        rotate_left
                        · exact absurd (show ¬ ((nI (by1 f p)) = 16) from fun h9 => absurd ((eq_nI (p := by1 f p) (n := 16) (Nat.lt_trans (by1_lt _ _) (by decide)) (by decide)).mp h9) (by omega)) (of_decide_eq_false c_302)
                        refine ps_st (S' := (331, [(0, .ref m0), (1, .int (nI k)), (2, .int (nI p)), (3, .int (nI (by1 f p)))], [.int (nI (by1 f p))], M1)) rfl rfl rfl ?_
                        refine ps_st (S' := (333, [(0, .ref m0), (1, .int (nI k)), (2, .int (nI p)), (3, .int (nI (by1 f p)))], [.int 17, .int (nI (by1 f p))], M1)) rfl rfl rfl ?_
                        refine ps_if2 (S1 := (342, [(0, .ref m0), (1, .int (nI k)), (2, .int (nI p)), (3, .int (nI (by1 f p)))], [], M1)) (S2 := (336, [(0, .ref m0), (1, .int (nI k)), (2, .int (nI p)), (3, .int (nI (by1 f p)))], [], M1)) rfl rfl rfl (fun c_333 => ?_) (fun c_333 => ?_)
                        · exact absurd (of_decide_eq_true c_333) (show ¬ ((nI (by1 f p)) = 17) from fun h9 => absurd ((eq_nI (p := by1 f p) (n := 17) (Nat.lt_trans (by1_lt _ _) (by decide)) (by decide)).mp h9) (by omega))
                        refine ps_st (S' := (337, [(0, .ref m0), (1, .int (nI k)), (2, .int (nI p)), (3, .int (nI (by1 f p)))], [.int (nI (by1 f p))], M1)) rfl rfl rfl ?_
                        refine ps_st (S' := (339, [(0, .ref m0), (1, .int (nI k)), (2, .int (nI p)), (3, .int (nI (by1 f p)))], [.int 18, .int (nI (by1 f p))], M1)) rfl rfl rfl ?_
                        refine ps_if2 (S1 := (420, [(0, .ref m0), (1, .int (nI k))], [], M1)) (S2 := (342, [(0, .ref m0), (1, .int (nI k)), (2, .int (nI p)), (3, .int (nI (by1 f p)))], [], M1)) rfl rfl rfl (fun c_339 => ?_) (fun c_339 => ?_)
                        rotate_left
                        · exact absurd (show ¬ ((nI (by1 f p)) = 18) from fun h9 => absurd ((eq_nI (p := by1 f p) (n := 18) (Nat.lt_trans (by1_lt _ _) (by decide)) (by decide)).mp h9) (by omega)) (of_decide_eq_false c_339)
                        refine ps_st (S' := (423, [(1, .int ((nI k) + 1)), (0, .ref m0)], [], M1)) rfl rfl rfl ?_
                        rw [nI_add1 (p := k) (k := 1) (x := 1) rfl (by omega)]
                        show pl _ _ _ (_, [(1, .int (nI (k + 1))), (0, .ref m0)], [], M1) _
                        refine ps_st (S' := (2, [(0, .ref m0), (1, .int (nI (k + 1)))], [], M1)) rfl rfl rfl ?_
                        exact ih (k + 1) M1 I1 R1 hR1 hEI1 hER1 hl51 hl52 hl53 hl9 hF1 hY1 hP1 (by omega) (by
                            have hb : brkN f n E mj k = 0 := by
                              have e12 := nwt_9 (f := f) (n := n) (E := E) (k := k)
                              have e13 := mrf_9 (f := f) (n := n) (E := E) (k := k)
                              unfold brkN
                              first | ((repeat first | rw [if_pos (by omega)] | rw [if_neg (by omega)]) <;> first | rfl | omega) | ((repeat' split) <;> first | rfl | (exfalso; omega) | omega)
                            rw [← hs, chkP_st (k := k) (by omega), if_neg (by omega), if_pos hb])
                      · have c_288 : ¬ (¬ (nI (hdlN f n E mj (fi f E k) (se f E k))) = 0) := of_decide_eq_false c_288
                        have n_288 : hdlN f n E mj (fi f E k) (se f E k) = 0 := (eq_nI (p := hdlN f n E mj (fi f E k) (se f E k)) (n := 0) (Nat.lt_trans (le1_hdl _ _ _ _ _ _) (by decide)) (by decide)).mp (Decidable.not_not.mp c_288)
                        refine ps_st (S' := (292, [(0, .ref m0), (1, .int (nI k)), (2, .int (nI p)), (3, .int (nI (by1 f p)))], [.ref m0], M1)) rfl rfl rfl ?_
                        refine ps_st (S' := (294, [(0, .ref m0), (1, .int (nI k)), (2, .int (nI p)), (3, .int (nI (by1 f p)))], [.int 13, .ref m0], M1)) rfl rfl rfl ?_
                        refine ps_st (S' := (295, [(0, .ref m0), (1, .int (nI k)), (2, .int (nI p)), (3, .int (nI (by1 f p)))], [.int (nI p), .int 13, .ref m0], M1)) rfl rfl rfl ?_
                        refine pl_call (a := [.ref m0, .int 13, .int (nI p)]) (rest := []) rfl rfl rfl (rd_wrong (x1 := 13) (x2 := (nI p)) hR1) (fun v167 M168 q169 => ?_)
                        obtain ⟨I170, R171, rfl, hR172, hI173, hX174, hi175, hi176⟩ := q169
                        have hi177 := (hI173 51 (by decide)).trans hl51
                        have hi178 := (hI173 52 (by decide)).trans hl52
                        have hi179 := (hI173 53 (by decide)).trans hl53
                        have hi180 := (hI173 9 (by decide)).trans hl9
                        have hF_181 := hF1.mono (cIx hI173 (by decide)) (cRx hX174 (by decide))
                        have hY_182 := hY1.mono (cIx hI173 (by decide)) (cRx hX174 (by decide))
                        have hP_183 := hP1.mono (cIx hI173 (by decide)) (cRx hX174 (by decide))
                        have hEI184 := hEI1.tr hI173 (by decide)
                        have hER185 := hER1.tr hX174 (by decide)
                        show pl _ _ _ (298, [(0, .ref m0), (1, .int (nI k)), (2, .int (nI p)), (3, .int (nI (by1 f p)))], [.int 0], M168) _
                        exact ps_ret rfl rfl (Or.inr ⟨(13, p), I170, R171, by
                            have hb : brkN f n E mj k = 13 := by
                              have e12 := nwt_9 (f := f) (n := n) (E := E) (k := k)
                              have e13 := mrf_9 (f := f) (n := n) (E := E) (k := k)
                              unfold brkN
                              first | ((repeat first | rw [if_pos (by omega)] | rw [if_neg (by omega)]) <;> first | rfl | omega) | ((repeat' split) <;> first | rfl | (exfalso; omega) | omega)
                            rw [← hs, chkP_st (k := k) (by omega), if_neg (by omega), if_neg (by omega), hb, htp], rfl, hR172, hEI184, hER185, hi175, hi176⟩)
                  · have c_159 : ¬ (11 < (nI (by1 f p))) := of_decide_eq_false c_159
                    have n_159 : ¬ (11 < by1 f p) := fun h9 => c_159 ((lt_nI (p := 11) (n := by1 f p) (by decide) (Nat.lt_trans (by1_lt _ _) (by decide))).mpr h9)
                    refine ps_st (S' := (163, [(0, .ref m0), (1, .int (nI k)), (2, .int (nI p)), (3, .int (nI (by1 f p)))], [.ref m0], M1)) rfl rfl rfl ?_
                    refine ps_st (S' := (164, [(0, .ref m0), (1, .int (nI k)), (2, .int (nI p)), (3, .int (nI (by1 f p)))], [.ref m0, .ref m0], M1)) rfl rfl rfl ?_
                    refine ps_st (S' := (165, [(0, .ref m0), (1, .int (nI k)), (2, .int (nI p)), (3, .int (nI (by1 f p)))], [.ref m0, .ref m0, .ref m0], M1)) rfl rfl rfl ?_
                    refine ps_st (S' := (166, [(0, .ref m0), (1, .int (nI k)), (2, .int (nI p)), (3, .int (nI (by1 f p)))], [.int (nI k), .ref m0, .ref m0, .ref m0], M1)) rfl rfl rfl ?_
                    refine ps_st (S' := (167, [(0, .ref m0), (1, .int (nI k)), (2, .int (nI p)), (3, .int (nI (by1 f p)))], [.int 3, .int (nI k), .ref m0, .ref m0, .ref m0], M1)) rfl rfl rfl ?_
                    refine pl_call (a := [.ref m0, .int (nI k), .int 3]) (rest := [.ref m0, .ref m0]) rfl rfl rfl (rd_idx3 (n := n) (f := f) (tx := tx) (cN := cN) (A := A) (N := N) (mj := mj) (E := E) (k := k) hR1 hl51 hl52 hl53 hF1 hY1 hP1 (hEP) (hN) (hmj) (by omega)) (fun v186 M187 q188 => ?_)
                    obtain ⟨rfl, rfl⟩ := q188
                    show pl _ _ _ (170, [(0, .ref m0), (1, .int (nI k)), (2, .int (nI p)), (3, .int (nI (by1 f p)))], [.int (nI (se f E k)), .ref m0, .ref m0], M1) _
                    have hix_167 := se_lt f E k
                    refine ps_st (S' := (171, [(0, .ref m0), (1, .int (nI k)), (2, .int (nI p)), (3, .int (nI (by1 f p)))], [.int 1, .int (nI (se f E k)), .ref m0, .ref m0], M1)) rfl rfl rfl ?_
                    refine pl_call (a := [.ref m0, .int (nI (se f E k)), .int 1]) (rest := [.ref m0]) rfl rfl rfl (rd_idx1 (n := n) (f := f) (tx := tx) (cN := cN) (A := A) (N := N) (mj := mj) (E := E) (k := (se f E k)) hR1 hl51 hl52 hl53 hF1 hY1 hP1 (hEP) (hN) (hmj) (by omega)) (fun v189 M190 q191 => ?_)
                    obtain ⟨rfl, rfl⟩ := q191
                    show pl _ _ _ (174, [(0, .ref m0), (1, .int (nI k)), (2, .int (nI p)), (3, .int (nI (by1 f p)))], [.int (nI (fi f E (se f E k))), .ref m0], M1) _
                    have hix_171 := fi_lt f E (se f E k)
                    refine pl_call (a := [.ref m0, .int (nI (fi f E (se f E k)))]) (rest := []) rfl rfl rfl (rd_symOf (n := n) (f := f) (tx := tx) (cN := cN) (A := A) (N := N) (mj := mj) (E := E) (k := (fi f E (se f E k))) hR1 hl51 hl52 hl53 hF1 hY1 hP1 (hEP) (hN) (hmj) (by omega)) (fun v192 M193 q194 => ?_)
                    obtain ⟨s195, q174_s, rfl, rfl⟩ := q194
                    show pl _ _ _ (177, [(0, .ref m0), (1, .int (nI k)), (2, .int (nI p)), (3, .int (nI (by1 f p)))], [.int (nI s195)], M1) _
                    have hsl_174 := q174_s.1
                    have htl_174 := hY1.1.2.2.1
                    refine ps_st (S' := (179, [(4, .int (nI s195)), (0, .ref m0), (1, .int (nI k)), (2, .int (nI p)), (3, .int (nI (by1 f p)))], [], M1)) rfl rfl rfl ?_
                    refine ps_st (S' := (180, [(4, .int (nI s195)), (0, .ref m0), (1, .int (nI k)), (2, .int (nI p)), (3, .int (nI (by1 f p)))], [.ref m0], M1)) rfl rfl rfl ?_
                    refine ps_st (S' := (181, [(4, .int (nI s195)), (0, .ref m0), (1, .int (nI k)), (2, .int (nI p)), (3, .int (nI (by1 f p)))], [.ref m0, .ref m0], M1)) rfl rfl rfl ?_
                    refine ps_st (S' := (182, [(4, .int (nI s195)), (0, .ref m0), (1, .int (nI k)), (2, .int (nI p)), (3, .int (nI (by1 f p)))], [.ref m0, .ref m0, .ref m0], M1)) rfl rfl rfl ?_
                    refine ps_st (S' := (183, [(4, .int (nI s195)), (0, .ref m0), (1, .int (nI k)), (2, .int (nI p)), (3, .int (nI (by1 f p)))], [.int (nI k), .ref m0, .ref m0, .ref m0], M1)) rfl rfl rfl ?_
                    refine ps_st (S' := (184, [(4, .int (nI s195)), (0, .ref m0), (1, .int (nI k)), (2, .int (nI p)), (3, .int (nI (by1 f p)))], [.int 3, .int (nI k), .ref m0, .ref m0, .ref m0], M1)) rfl rfl rfl ?_
                    refine pl_call (a := [.ref m0, .int (nI k), .int 3]) (rest := [.ref m0, .ref m0]) rfl rfl rfl (rd_idx3 (n := n) (f := f) (tx := tx) (cN := cN) (A := A) (N := N) (mj := mj) (E := E) (k := k) hR1 hl51 hl52 hl53 hF1 hY1 hP1 (hEP) (hN) (hmj) (by omega)) (fun v196 M197 q198 => ?_)
                    obtain ⟨rfl, rfl⟩ := q198
                    show pl _ _ _ (187, [(4, .int (nI s195)), (0, .ref m0), (1, .int (nI k)), (2, .int (nI p)), (3, .int (nI (by1 f p)))], [.int (nI (se f E k)), .ref m0, .ref m0], M1) _
                    have hix_184 := se_lt f E k
                    refine ps_st (S' := (188, [(4, .int (nI s195)), (0, .ref m0), (1, .int (nI k)), (2, .int (nI p)), (3, .int (nI (by1 f p)))], [.int 3, .int (nI (se f E k)), .ref m0, .ref m0], M1)) rfl rfl rfl ?_
                    refine pl_call (a := [.ref m0, .int (nI (se f E k)), .int 3]) (rest := [.ref m0]) rfl rfl rfl (rd_idx3 (n := n) (f := f) (tx := tx) (cN := cN) (A := A) (N := N) (mj := mj) (E := E) (k := (se f E k)) hR1 hl51 hl52 hl53 hF1 hY1 hP1 (hEP) (hN) (hmj) (by omega)) (fun v199 M200 q201 => ?_)
                    obtain ⟨rfl, rfl⟩ := q201
                    show pl _ _ _ (191, [(4, .int (nI s195)), (0, .ref m0), (1, .int (nI k)), (2, .int (nI p)), (3, .int (nI (by1 f p)))], [.int (nI (se f E (se f E k))), .ref m0], M1) _
                    have hix_188 := se_lt f E (se f E k)
                    refine pl_call (a := [.ref m0, .int (nI (se f E (se f E k)))]) (rest := []) rfl rfl rfl (rd_symOf (n := n) (f := f) (tx := tx) (cN := cN) (A := A) (N := N) (mj := mj) (E := E) (k := (se f E (se f E k))) hR1 hl51 hl52 hl53 hF1 hY1 hP1 (hEP) (hN) (hmj) (by omega)) (fun v202 M203 q204 => ?_)
                    obtain ⟨s205, q191_s, rfl, rfl⟩ := q204
                    show pl _ _ _ (194, [(4, .int (nI s195)), (0, .ref m0), (1, .int (nI k)), (2, .int (nI p)), (3, .int (nI (by1 f p)))], [.int (nI s205)], M1) _
                    have hsl_191 := q191_s.1
                    have htl_191 := hY1.1.2.2.1
                    refine ps_st (S' := (196, [(5, .int (nI s205)), (4, .int (nI s195)), (0, .ref m0), (1, .int (nI k)), (2, .int (nI p)), (3, .int (nI (by1 f p)))], [], M1)) rfl rfl rfl ?_
                    refine ps_st (S' := (197, [(5, .int (nI s205)), (4, .int (nI s195)), (0, .ref m0), (1, .int (nI k)), (2, .int (nI p)), (3, .int (nI (by1 f p)))], [.ref m0], M1)) rfl rfl rfl ?_
                    refine ps_st (S' := (199, [(5, .int (nI s205)), (4, .int (nI s195)), (0, .ref m0), (1, .int (nI k)), (2, .int (nI p)), (3, .int (nI (by1 f p)))], [.int (nI s195), .ref m0], M1)) rfl rfl rfl ?_
                    refine pl_call (a := [.ref m0, .int (nI s195)]) (rest := []) rfl rfl rfl (rd_angles (tx := tx) (cN := cN) (A := A) (s := s195) (l := (tX f n E (fi f E (se f E k)))) hR1 hY1 (q174_s)) (fun v206 M207 q208 => ?_)
                    obtain ⟨rfl, rfl⟩ := q208
                    show pl _ _ _ (202, [(5, .int (nI s205)), (4, .int (nI s195)), (0, .ref m0), (1, .int (nI k)), (2, .int (nI p)), (3, .int (nI (by1 f p)))], [.int (nI (angN (tX f n E (fi f E (se f E k)))))], M1) _
                    refine ps_st (S' := (204, [(6, .int (nI (angN (tX f n E (fi f E (se f E k)))))), (5, .int (nI s205)), (4, .int (nI s195)), (0, .ref m0), (1, .int (nI k)), (2, .int (nI p)), (3, .int (nI (by1 f p)))], [], M1)) rfl rfl rfl ?_
                    refine ps_st (S' := (205, [(6, .int (nI (angN (tX f n E (fi f E (se f E k)))))), (5, .int (nI s205)), (4, .int (nI s195)), (0, .ref m0), (1, .int (nI k)), (2, .int (nI p)), (3, .int (nI (by1 f p)))], [.int (nI (by1 f p))], M1)) rfl rfl rfl ?_
                    refine ps_st (S' := (207, [(6, .int (nI (angN (tX f n E (fi f E (se f E k)))))), (5, .int (nI s205)), (4, .int (nI s195)), (0, .ref m0), (1, .int (nI k)), (2, .int (nI p)), (3, .int (nI (by1 f p)))], [.int 9, .int (nI (by1 f p))], M1)) rfl rfl rfl ?_
                    refine ps_if2 (S1 := (219, [(6, .int (nI (angN (tX f n E (fi f E (se f E k)))))), (5, .int (nI s205)), (4, .int (nI s195)), (0, .ref m0), (1, .int (nI k)), (2, .int (nI p)), (3, .int (nI (by1 f p)))], [], M1)) (S2 := (210, [(6, .int (nI (angN (tX f n E (fi f E (se f E k)))))), (5, .int (nI s205)), (4, .int (nI s195)), (0, .ref m0), (1, .int (nI k)), (2, .int (nI p)), (3, .int (nI (by1 f p)))], [], M1)) rfl rfl rfl (fun c_207 => ?_) (fun c_207 => ?_)
                    · have c_207 : ¬ (nI (by1 f p)) = 9 := of_decide_eq_true c_207
                      have n_207 : ¬ (by1 f p = 9) := fun h9 => c_207 ((eq_nI (p := by1 f p) (n := 9) (Nat.lt_trans (by1_lt _ _) (by decide)) (by decide)).mpr h9)
                      refine ps_st (S' := (220, [(6, .int (nI (angN (tX f n E (fi f E (se f E k)))))), (5, .int (nI s205)), (4, .int (nI s195)), (0, .ref m0), (1, .int (nI k)), (2, .int (nI p)), (3, .int (nI (by1 f p)))], [.ref m0], M1)) rfl rfl rfl ?_
                      refine ps_st (S' := (222, [(6, .int (nI (angN (tX f n E (fi f E (se f E k)))))), (5, .int (nI s205)), (4, .int (nI s195)), (0, .ref m0), (1, .int (nI k)), (2, .int (nI p)), (3, .int (nI (by1 f p)))], [.int (nI s205), .ref m0], M1)) rfl rfl rfl ?_
                      refine pl_call (a := [.ref m0, .int (nI s205)]) (rest := []) rfl rfl rfl (rd_isMethod (tx := tx) (cN := cN) (A := A) (s := s205) (l := (tX f n E (se f E (se f E k)))) hR1 hY1 (q191_s)) (fun v209 M210 q211 => ?_)
                      obtain ⟨rfl, rfl⟩ := q211
                      show pl _ _ _ (225, [(6, .int (nI (angN (tX f n E (fi f E (se f E k)))))), (5, .int (nI s205)), (4, .int (nI s195)), (0, .ref m0), (1, .int (nI k)), (2, .int (nI p)), (3, .int (nI (by1 f p)))], [.int (nI (mthN (tX f n E (se f E (se f E k)))))], M1) _
                      refine ps_if (S1 := (261, [(0, .ref m0), (1, .int (nI k)), (2, .int (nI p)), (3, .int (nI (by1 f p)))], [], M1)) (S2 := (228, [(6, .int (nI (angN (tX f n E (fi f E (se f E k)))))), (5, .int (nI s205)), (4, .int (nI s195)), (0, .ref m0), (1, .int (nI k)), (2, .int (nI p)), (3, .int (nI (by1 f p)))], [], M1)) rfl rfl rfl (fun c_225 => ?_) (fun c_225 => ?_)
                      · have c_225 : (nI (mthN (tX f n E (se f E (se f E k))))) = 0 := of_decide_eq_true c_225
                        have n_225 : mthN (tX f n E (se f E (se f E k))) = 0 := (eq_nI (p := mthN (tX f n E (se f E (se f E k)))) (n := 0) (Nat.lt_trans (le1_mth _) (by decide)) (by decide)).mp c_225
                        refine ps_st (S' := (262, [(0, .ref m0), (1, .int (nI k)), (2, .int (nI p)), (3, .int (nI (by1 f p)))], [.int 0], M1)) rfl rfl rfl ?_
                        refine ps_st (S' := (264, [(7, .int 0), (0, .ref m0), (1, .int (nI k)), (2, .int (nI p)), (3, .int (nI (by1 f p)))], [], M1)) rfl rfl rfl ?_
                        refine ps_st (S' := (266, [(7, .int 0), (0, .ref m0), (1, .int (nI k)), (2, .int (nI p)), (3, .int (nI (by1 f p)))], [.int 0], M1)) rfl rfl rfl ?_
                        refine ps_if (S1 := (277, [(0, .ref m0), (1, .int (nI k)), (2, .int (nI p)), (3, .int (nI (by1 f p)))], [], M1)) (S2 := (269, [(7, .int 0), (0, .ref m0), (1, .int (nI k)), (2, .int (nI p)), (3, .int (nI (by1 f p)))], [], M1)) rfl rfl rfl (fun c_266 => ?_) (fun c_266 => ?_)
                        · exact absurd (of_decide_eq_true c_266) (by decide)
                        refine ps_st (S' := (270, [(7, .int 0), (0, .ref m0), (1, .int (nI k)), (2, .int (nI p)), (3, .int (nI (by1 f p)))], [.ref m0], M1)) rfl rfl rfl ?_
                        refine ps_st (S' := (272, [(7, .int 0), (0, .ref m0), (1, .int (nI k)), (2, .int (nI p)), (3, .int (nI (by1 f p)))], [.int 12, .ref m0], M1)) rfl rfl rfl ?_
                        refine ps_st (S' := (273, [(7, .int 0), (0, .ref m0), (1, .int (nI k)), (2, .int (nI p)), (3, .int (nI (by1 f p)))], [.int (nI p), .int 12, .ref m0], M1)) rfl rfl rfl ?_
                        refine pl_call (a := [.ref m0, .int 12, .int (nI p)]) (rest := []) rfl rfl rfl (rd_wrong (x1 := 12) (x2 := (nI p)) hR1) (fun v212 M213 q214 => ?_)
                        obtain ⟨I215, R216, rfl, hR217, hI218, hX219, hi220, hi221⟩ := q214
                        have hi222 := (hI218 51 (by decide)).trans hl51
                        have hi223 := (hI218 52 (by decide)).trans hl52
                        have hi224 := (hI218 53 (by decide)).trans hl53
                        have hi225 := (hI218 9 (by decide)).trans hl9
                        have hF_226 := hF1.mono (cIx hI218 (by decide)) (cRx hX219 (by decide))
                        have hY_227 := hY1.mono (cIx hI218 (by decide)) (cRx hX219 (by decide))
                        have hP_228 := hP1.mono (cIx hI218 (by decide)) (cRx hX219 (by decide))
                        have hEI229 := hEI1.tr hI218 (by decide)
                        have hER230 := hER1.tr hX219 (by decide)
                        show pl _ _ _ (276, [(7, .int 0), (0, .ref m0), (1, .int (nI k)), (2, .int (nI p)), (3, .int (nI (by1 f p)))], [.int 0], M213) _
                        exact ps_ret rfl rfl (Or.inr ⟨(12, p), I215, R216, by
                            have hb : brkN f n E mj k = 12 := by
                              have e12 := nwt_9 (f := f) (n := n) (E := E) (k := k)
                              have e13 := mrf_9 (f := f) (n := n) (E := E) (k := k)
                              unfold brkN
                              first | ((repeat first | rw [if_pos (by omega)] | rw [if_neg (by omega)]) <;> first | rfl | omega) | ((repeat' split) <;> first | rfl | (exfalso; omega) | omega)
                            rw [← hs, chkP_st (k := k) (by omega), if_neg (by omega), if_neg (by omega), hb, htp], rfl, hR217, hEI229, hER230, hi220, hi221⟩)
                      · have c_225 : ¬ ((nI (mthN (tX f n E (se f E (se f E k))))) = 0) := of_decide_eq_false c_225
                        have n_225 : ¬ (mthN (tX f n E (se f E (se f E k))) = 0) := fun h9 => c_225 ((eq_nI (p := mthN (tX f n E (se f E (se f E k)))) (n := 0) (Nat.lt_trans (le1_mth _) (by decide)) (by decide)).mpr h9)
                        refine ps_st (S' := (230, [(6, .int (nI (angN (tX f n E (fi f E (se f E k)))))), (5, .int (nI s205)), (4, .int (nI s195)), (0, .ref m0), (1, .int (nI k)), (2, .int (nI p)), (3, .int (nI (by1 f p)))], [.int (nI (angN (tX f n E (fi f E (se f E k)))))], M1)) rfl rfl rfl ?_
                        refine ps_if (S1 := (257, [(0, .ref m0), (1, .int (nI k)), (2, .int (nI p)), (3, .int (nI (by1 f p)))], [], M1)) (S2 := (233, [(6, .int (nI (angN (tX f n E (fi f E (se f E k)))))), (5, .int (nI s205)), (4, .int (nI s195)), (0, .ref m0), (1, .int (nI k)), (2, .int (nI p)), (3, .int (nI (by1 f p)))], [], M1)) rfl rfl rfl (fun c_230 => ?_) (fun c_230 => ?_)
                        · have c_230 : (nI (angN (tX f n E (fi f E (se f E k))))) = 0 := of_decide_eq_true c_230
                          have n_230 : angN (tX f n E (fi f E (se f E k))) = 0 := (eq_nI (p := angN (tX f n E (fi f E (se f E k)))) (n := 0) (Nat.lt_trans (le1_ang _) (by decide)) (by decide)).mp c_230
                          refine ps_st (S' := (258, [(0, .ref m0), (1, .int (nI k)), (2, .int (nI p)), (3, .int (nI (by1 f p)))], [.int 1], M1)) rfl rfl rfl ?_
                          refine ps_st (S' := (262, [(0, .ref m0), (1, .int (nI k)), (2, .int (nI p)), (3, .int (nI (by1 f p)))], [.int 1], M1)) rfl rfl rfl ?_
                          refine ps_st (S' := (264, [(7, .int 1), (0, .ref m0), (1, .int (nI k)), (2, .int (nI p)), (3, .int (nI (by1 f p)))], [], M1)) rfl rfl rfl ?_
                          refine ps_st (S' := (266, [(7, .int 1), (0, .ref m0), (1, .int (nI k)), (2, .int (nI p)), (3, .int (nI (by1 f p)))], [.int 1], M1)) rfl rfl rfl ?_
                          refine ps_if (S1 := (277, [(0, .ref m0), (1, .int (nI k)), (2, .int (nI p)), (3, .int (nI (by1 f p)))], [], M1)) (S2 := (269, [(7, .int 1), (0, .ref m0), (1, .int (nI k)), (2, .int (nI p)), (3, .int (nI (by1 f p)))], [], M1)) rfl rfl rfl (fun c_266 => ?_) (fun c_266 => ?_)
                          rotate_left
                          · exact absurd (by decide) (of_decide_eq_false c_266)
                          refine ps_st (S' := (278, [(0, .ref m0), (1, .int (nI k)), (2, .int (nI p)), (3, .int (nI (by1 f p)))], [.int (nI (by1 f p))], M1)) rfl rfl rfl ?_
                          refine ps_st (S' := (280, [(0, .ref m0), (1, .int (nI k)), (2, .int (nI p)), (3, .int (nI (by1 f p)))], [.int 15, .int (nI (by1 f p))], M1)) rfl rfl rfl ?_
                          refine ps_if2 (S1 := (299, [(0, .ref m0), (1, .int (nI k)), (2, .int (nI p)), (3, .int (nI (by1 f p)))], [], M1)) (S2 := (283, [(0, .ref m0), (1, .int (nI k)), (2, .int (nI p)), (3, .int (nI (by1 f p)))], [], M1)) rfl rfl rfl (fun c_280 => ?_) (fun c_280 => ?_)
                          rotate_left
                          · exact absurd (show ¬ ((nI (by1 f p)) = 15) from fun h9 => absurd ((eq_nI (p := by1 f p) (n := 15) (Nat.lt_trans (by1_lt _ _) (by decide)) (by decide)).mp h9) (by omega)) (of_decide_eq_false c_280)
                          refine ps_st (S' := (300, [(0, .ref m0), (1, .int (nI k)), (2, .int (nI p)), (3, .int (nI (by1 f p)))], [.int (nI (by1 f p))], M1)) rfl rfl rfl ?_
                          refine ps_st (S' := (302, [(0, .ref m0), (1, .int (nI k)), (2, .int (nI p)), (3, .int (nI (by1 f p)))], [.int 16, .int (nI (by1 f p))], M1)) rfl rfl rfl ?_
                          refine ps_if2 (S1 := (330, [(0, .ref m0), (1, .int (nI k)), (2, .int (nI p)), (3, .int (nI (by1 f p)))], [], M1)) (S2 := (305, [(0, .ref m0), (1, .int (nI k)), (2, .int (nI p)), (3, .int (nI (by1 f p)))], [], M1)) rfl rfl rfl (fun c_302 => ?_) (fun c_302 => ?_)
                          rotate_left
                          · exact absurd (show ¬ ((nI (by1 f p)) = 16) from fun h9 => absurd ((eq_nI (p := by1 f p) (n := 16) (Nat.lt_trans (by1_lt _ _) (by decide)) (by decide)).mp h9) (by omega)) (of_decide_eq_false c_302)
                          refine ps_st (S' := (331, [(0, .ref m0), (1, .int (nI k)), (2, .int (nI p)), (3, .int (nI (by1 f p)))], [.int (nI (by1 f p))], M1)) rfl rfl rfl ?_
                          refine ps_st (S' := (333, [(0, .ref m0), (1, .int (nI k)), (2, .int (nI p)), (3, .int (nI (by1 f p)))], [.int 17, .int (nI (by1 f p))], M1)) rfl rfl rfl ?_
                          refine ps_if2 (S1 := (342, [(0, .ref m0), (1, .int (nI k)), (2, .int (nI p)), (3, .int (nI (by1 f p)))], [], M1)) (S2 := (336, [(0, .ref m0), (1, .int (nI k)), (2, .int (nI p)), (3, .int (nI (by1 f p)))], [], M1)) rfl rfl rfl (fun c_333 => ?_) (fun c_333 => ?_)
                          · exact absurd (of_decide_eq_true c_333) (show ¬ ((nI (by1 f p)) = 17) from fun h9 => absurd ((eq_nI (p := by1 f p) (n := 17) (Nat.lt_trans (by1_lt _ _) (by decide)) (by decide)).mp h9) (by omega))
                          refine ps_st (S' := (337, [(0, .ref m0), (1, .int (nI k)), (2, .int (nI p)), (3, .int (nI (by1 f p)))], [.int (nI (by1 f p))], M1)) rfl rfl rfl ?_
                          refine ps_st (S' := (339, [(0, .ref m0), (1, .int (nI k)), (2, .int (nI p)), (3, .int (nI (by1 f p)))], [.int 18, .int (nI (by1 f p))], M1)) rfl rfl rfl ?_
                          refine ps_if2 (S1 := (420, [(0, .ref m0), (1, .int (nI k))], [], M1)) (S2 := (342, [(0, .ref m0), (1, .int (nI k)), (2, .int (nI p)), (3, .int (nI (by1 f p)))], [], M1)) rfl rfl rfl (fun c_339 => ?_) (fun c_339 => ?_)
                          rotate_left
                          · exact absurd (show ¬ ((nI (by1 f p)) = 18) from fun h9 => absurd ((eq_nI (p := by1 f p) (n := 18) (Nat.lt_trans (by1_lt _ _) (by decide)) (by decide)).mp h9) (by omega)) (of_decide_eq_false c_339)
                          refine ps_st (S' := (423, [(1, .int ((nI k) + 1)), (0, .ref m0)], [], M1)) rfl rfl rfl ?_
                          rw [nI_add1 (p := k) (k := 1) (x := 1) rfl (by omega)]
                          show pl _ _ _ (_, [(1, .int (nI (k + 1))), (0, .ref m0)], [], M1) _
                          refine ps_st (S' := (2, [(0, .ref m0), (1, .int (nI (k + 1)))], [], M1)) rfl rfl rfl ?_
                          exact ih (k + 1) M1 I1 R1 hR1 hEI1 hER1 hl51 hl52 hl53 hl9 hF1 hY1 hP1 (by omega) (by
                              have hb : brkN f n E mj k = 0 := by
                                have e12 := nwt_9 (f := f) (n := n) (E := E) (k := k)
                                have e13 := mrf_9 (f := f) (n := n) (E := E) (k := k)
                                unfold brkN
                                first | ((repeat first | rw [if_pos (by omega)] | rw [if_neg (by omega)]) <;> first | rfl | omega) | ((repeat' split) <;> first | rfl | (exfalso; omega) | omega)
                              rw [← hs, chkP_st (k := k) (by omega), if_neg (by omega), if_pos hb])
                        · have c_230 : ¬ ((nI (angN (tX f n E (fi f E (se f E k))))) = 0) := of_decide_eq_false c_230
                          have n_230 : ¬ (angN (tX f n E (fi f E (se f E k))) = 0) := fun h9 => c_230 ((eq_nI (p := angN (tX f n E (fi f E (se f E k)))) (n := 0) (Nat.lt_trans (le1_ang _) (by decide)) (by decide)).mpr h9)
                          refine ps_st (S' := (234, [(6, .int (nI (angN (tX f n E (fi f E (se f E k)))))), (5, .int (nI s205)), (4, .int (nI s195)), (0, .ref m0), (1, .int (nI k)), (2, .int (nI p)), (3, .int (nI (by1 f p)))], [.int (nI (by1 f p))], M1)) rfl rfl rfl ?_
                          refine ps_st (S' := (236, [(6, .int (nI (angN (tX f n E (fi f E (se f E k)))))), (5, .int (nI s205)), (4, .int (nI s195)), (0, .ref m0), (1, .int (nI k)), (2, .int (nI p)), (3, .int (nI (by1 f p)))], [.int 10, .int (nI (by1 f p))], M1)) rfl rfl rfl ?_
                          refine ps_if2 (S1 := (261, [(0, .ref m0), (1, .int (nI k)), (2, .int (nI p)), (3, .int (nI (by1 f p)))], [], M1)) (S2 := (239, [(6, .int (nI (angN (tX f n E (fi f E (se f E k)))))), (5, .int (nI s205)), (4, .int (nI s195)), (0, .ref m0), (1, .int (nI k)), (2, .int (nI p)), (3, .int (nI (by1 f p)))], [], M1)) rfl rfl rfl (fun c_236 => ?_) (fun c_236 => ?_)
                          · have c_236 : ¬ (nI (by1 f p)) = 10 := of_decide_eq_true c_236
                            have n_236 : ¬ (by1 f p = 10) := fun h9 => c_236 ((eq_nI (p := by1 f p) (n := 10) (Nat.lt_trans (by1_lt _ _) (by decide)) (by decide)).mpr h9)
                            refine ps_st (S' := (262, [(0, .ref m0), (1, .int (nI k)), (2, .int (nI p)), (3, .int (nI (by1 f p)))], [.int 0], M1)) rfl rfl rfl ?_
                            refine ps_st (S' := (264, [(7, .int 0), (0, .ref m0), (1, .int (nI k)), (2, .int (nI p)), (3, .int (nI (by1 f p)))], [], M1)) rfl rfl rfl ?_
                            refine ps_st (S' := (266, [(7, .int 0), (0, .ref m0), (1, .int (nI k)), (2, .int (nI p)), (3, .int (nI (by1 f p)))], [.int 0], M1)) rfl rfl rfl ?_
                            refine ps_if (S1 := (277, [(0, .ref m0), (1, .int (nI k)), (2, .int (nI p)), (3, .int (nI (by1 f p)))], [], M1)) (S2 := (269, [(7, .int 0), (0, .ref m0), (1, .int (nI k)), (2, .int (nI p)), (3, .int (nI (by1 f p)))], [], M1)) rfl rfl rfl (fun c_266 => ?_) (fun c_266 => ?_)
                            · exact absurd (of_decide_eq_true c_266) (by decide)
                            refine ps_st (S' := (270, [(7, .int 0), (0, .ref m0), (1, .int (nI k)), (2, .int (nI p)), (3, .int (nI (by1 f p)))], [.ref m0], M1)) rfl rfl rfl ?_
                            refine ps_st (S' := (272, [(7, .int 0), (0, .ref m0), (1, .int (nI k)), (2, .int (nI p)), (3, .int (nI (by1 f p)))], [.int 12, .ref m0], M1)) rfl rfl rfl ?_
                            refine ps_st (S' := (273, [(7, .int 0), (0, .ref m0), (1, .int (nI k)), (2, .int (nI p)), (3, .int (nI (by1 f p)))], [.int (nI p), .int 12, .ref m0], M1)) rfl rfl rfl ?_
                            refine pl_call (a := [.ref m0, .int 12, .int (nI p)]) (rest := []) rfl rfl rfl (rd_wrong (x1 := 12) (x2 := (nI p)) hR1) (fun v231 M232 q233 => ?_)
                            obtain ⟨I234, R235, rfl, hR236, hI237, hX238, hi239, hi240⟩ := q233
                            have hi241 := (hI237 51 (by decide)).trans hl51
                            have hi242 := (hI237 52 (by decide)).trans hl52
                            have hi243 := (hI237 53 (by decide)).trans hl53
                            have hi244 := (hI237 9 (by decide)).trans hl9
                            have hF_245 := hF1.mono (cIx hI237 (by decide)) (cRx hX238 (by decide))
                            have hY_246 := hY1.mono (cIx hI237 (by decide)) (cRx hX238 (by decide))
                            have hP_247 := hP1.mono (cIx hI237 (by decide)) (cRx hX238 (by decide))
                            have hEI248 := hEI1.tr hI237 (by decide)
                            have hER249 := hER1.tr hX238 (by decide)
                            show pl _ _ _ (276, [(7, .int 0), (0, .ref m0), (1, .int (nI k)), (2, .int (nI p)), (3, .int (nI (by1 f p)))], [.int 0], M232) _
                            exact ps_ret rfl rfl (Or.inr ⟨(12, p), I234, R235, by
                                have hb : brkN f n E mj k = 12 := by
                                  have e12 := nwt_9 (f := f) (n := n) (E := E) (k := k)
                                  have e13 := mrf_9 (f := f) (n := n) (E := E) (k := k)
                                  unfold brkN
                                  first | ((repeat first | rw [if_pos (by omega)] | rw [if_neg (by omega)]) <;> first | rfl | omega) | ((repeat' split) <;> first | rfl | (exfalso; omega) | omega)
                                rw [← hs, chkP_st (k := k) (by omega), if_neg (by omega), if_neg (by omega), hb, htp], rfl, hR236, hEI248, hER249, hi239, hi240⟩)
                          · have c_236 : ¬ (¬ (nI (by1 f p)) = 10) := of_decide_eq_false c_236
                            have n_236 : by1 f p = 10 := (eq_nI (p := by1 f p) (n := 10) (Nat.lt_trans (by1_lt _ _) (by decide)) (by decide)).mp (Decidable.not_not.mp c_236)
                            have he9 := sym_eq hY1 q174_s hs1
                            rw [lt_eq.1] at he9
                            refine ps_st (S' := (241, [(6, .int (nI (angN (tX f n E (fi f E (se f E k)))))), (5, .int (nI s205)), (4, .int (nI s195)), (0, .ref m0), (1, .int (nI k)), (2, .int (nI p)), (3, .int (nI (by1 f p)))], [.int (nI s195)], M1)) rfl rfl rfl ?_
                            refine ps_st (S' := (242, [(6, .int (nI (angN (tX f n E (fi f E (se f E k)))))), (5, .int (nI s205)), (4, .int (nI s195)), (0, .ref m0), (1, .int (nI k)), (2, .int (nI p)), (3, .int (nI (by1 f p)))], [.ref m0, .int (nI s195)], M1)) rfl rfl rfl ?_
                            refine pr_int (j := 9) (S' := (245, [(6, .int (nI (angN (tX f n E (fi f E (se f E k)))))), (5, .int (nI s205)), (4, .int (nI s195)), (0, .ref m0), (1, .int (nI k)), (2, .int (nI p)), (3, .int (nI (by1 f p)))], [.int (nI s1), .int (nI s195)], M1)) rfl hR1 rfl hl9 rfl ?_
                            refine ps_if2 (S1 := (261, [(0, .ref m0), (1, .int (nI k)), (2, .int (nI p)), (3, .int (nI (by1 f p)))], [], M1)) (S2 := (248, [(6, .int (nI (angN (tX f n E (fi f E (se f E k)))))), (5, .int (nI s205)), (4, .int (nI s195)), (0, .ref m0), (1, .int (nI k)), (2, .int (nI p)), (3, .int (nI (by1 f p)))], [], M1)) rfl rfl rfl (fun c_245 => ?_) (fun c_245 => ?_)
                            · have c_245 : ¬ (nI s195) = (nI s1) := of_decide_eq_true c_245
                              have n_245 : ¬ (s195 = s1) := fun h9 => c_245 ((eq_nI (p := s195) (n := s1) (by omega) (by omega)).mpr h9)
                              refine ps_st (S' := (262, [(0, .ref m0), (1, .int (nI k)), (2, .int (nI p)), (3, .int (nI (by1 f p)))], [.int 0], M1)) rfl rfl rfl ?_
                              refine ps_st (S' := (264, [(7, .int 0), (0, .ref m0), (1, .int (nI k)), (2, .int (nI p)), (3, .int (nI (by1 f p)))], [], M1)) rfl rfl rfl ?_
                              refine ps_st (S' := (266, [(7, .int 0), (0, .ref m0), (1, .int (nI k)), (2, .int (nI p)), (3, .int (nI (by1 f p)))], [.int 0], M1)) rfl rfl rfl ?_
                              refine ps_if (S1 := (277, [(0, .ref m0), (1, .int (nI k)), (2, .int (nI p)), (3, .int (nI (by1 f p)))], [], M1)) (S2 := (269, [(7, .int 0), (0, .ref m0), (1, .int (nI k)), (2, .int (nI p)), (3, .int (nI (by1 f p)))], [], M1)) rfl rfl rfl (fun c_266 => ?_) (fun c_266 => ?_)
                              · exact absurd (of_decide_eq_true c_266) (by decide)
                              refine ps_st (S' := (270, [(7, .int 0), (0, .ref m0), (1, .int (nI k)), (2, .int (nI p)), (3, .int (nI (by1 f p)))], [.ref m0], M1)) rfl rfl rfl ?_
                              refine ps_st (S' := (272, [(7, .int 0), (0, .ref m0), (1, .int (nI k)), (2, .int (nI p)), (3, .int (nI (by1 f p)))], [.int 12, .ref m0], M1)) rfl rfl rfl ?_
                              refine ps_st (S' := (273, [(7, .int 0), (0, .ref m0), (1, .int (nI k)), (2, .int (nI p)), (3, .int (nI (by1 f p)))], [.int (nI p), .int 12, .ref m0], M1)) rfl rfl rfl ?_
                              refine pl_call (a := [.ref m0, .int 12, .int (nI p)]) (rest := []) rfl rfl rfl (rd_wrong (x1 := 12) (x2 := (nI p)) hR1) (fun v250 M251 q252 => ?_)
                              obtain ⟨I253, R254, rfl, hR255, hI256, hX257, hi258, hi259⟩ := q252
                              have hi260 := (hI256 51 (by decide)).trans hl51
                              have hi261 := (hI256 52 (by decide)).trans hl52
                              have hi262 := (hI256 53 (by decide)).trans hl53
                              have hi263 := (hI256 9 (by decide)).trans hl9
                              have hF_264 := hF1.mono (cIx hI256 (by decide)) (cRx hX257 (by decide))
                              have hY_265 := hY1.mono (cIx hI256 (by decide)) (cRx hX257 (by decide))
                              have hP_266 := hP1.mono (cIx hI256 (by decide)) (cRx hX257 (by decide))
                              have hEI267 := hEI1.tr hI256 (by decide)
                              have hER268 := hER1.tr hX257 (by decide)
                              show pl _ _ _ (276, [(7, .int 0), (0, .ref m0), (1, .int (nI k)), (2, .int (nI p)), (3, .int (nI (by1 f p)))], [.int 0], M251) _
                              exact ps_ret rfl rfl (Or.inr ⟨(12, p), I253, R254, by
                                  have hb : brkN f n E mj k = 12 := by
                                    have e12 := nwt_9 (f := f) (n := n) (E := E) (k := k)
                                    have e13 := mrf_9 (f := f) (n := n) (E := E) (k := k)
                                    unfold brkN
                                    first | ((repeat first | rw [if_pos (by omega)] | rw [if_neg (by omega)]) <;> first | rfl | omega) | ((repeat' split) <;> first | rfl | (exfalso; omega) | omega)
                                  rw [← hs, chkP_st (k := k) (by omega), if_neg (by omega), if_neg (by omega), hb, htp], rfl, hR255, hEI267, hER268, hi258, hi259⟩)
                            · have c_245 : ¬ (¬ (nI s195) = (nI s1)) := of_decide_eq_false c_245
                              have n_245 : s195 = s1 := (eq_nI (p := s195) (n := s1) (by omega) (by omega)).mp (Decidable.not_not.mp c_245)
                              refine ps_st (S' := (249, [(6, .int (nI (angN (tX f n E (fi f E (se f E k)))))), (5, .int (nI s205)), (4, .int (nI s195)), (0, .ref m0), (1, .int (nI k)), (2, .int (nI p)), (3, .int (nI (by1 f p)))], [.ref m0], M1)) rfl rfl rfl ?_
                              refine ps_st (S' := (251, [(6, .int (nI (angN (tX f n E (fi f E (se f E k)))))), (5, .int (nI s205)), (4, .int (nI s195)), (0, .ref m0), (1, .int (nI k)), (2, .int (nI p)), (3, .int (nI (by1 f p)))], [.int (nI s205), .ref m0], M1)) rfl rfl rfl ?_
                              refine pl_call (a := [.ref m0, .int (nI s205)]) (rest := []) rfl rfl rfl (rd_endsV (tx := tx) (cN := cN) (A := A) (s := s205) (l := (tX f n E (se f E (se f E k)))) hR1 hY1 (q191_s) (by omega)) (fun v269 M270 q271 => ?_)
                              obtain ⟨rfl, rfl⟩ := q271
                              show pl _ _ _ (254, [(6, .int (nI (angN (tX f n E (fi f E (se f E k)))))), (5, .int (nI s205)), (4, .int (nI s195)), (0, .ref m0), (1, .int (nI k)), (2, .int (nI p)), (3, .int (nI (by1 f p)))], [.int (nI (nresN (tX f n E (se f E (se f E k)))))], M1) _
                              refine ps_if (S1 := (261, [(0, .ref m0), (1, .int (nI k)), (2, .int (nI p)), (3, .int (nI (by1 f p)))], [], M1)) (S2 := (257, [(0, .ref m0), (1, .int (nI k)), (2, .int (nI p)), (3, .int (nI (by1 f p)))], [], M1)) rfl rfl rfl (fun c_254 => ?_) (fun c_254 => ?_)
                              · have c_254 : (nI (nresN (tX f n E (se f E (se f E k))))) = 0 := of_decide_eq_true c_254
                                have n_254 : nresN (tX f n E (se f E (se f E k))) = 0 := (eq_nI (p := nresN (tX f n E (se f E (se f E k)))) (n := 0) (Nat.lt_trans (le1_nres _) (by decide)) (by decide)).mp c_254
                                refine ps_st (S' := (262, [(0, .ref m0), (1, .int (nI k)), (2, .int (nI p)), (3, .int (nI (by1 f p)))], [.int 0], M1)) rfl rfl rfl ?_
                                refine ps_st (S' := (264, [(7, .int 0), (0, .ref m0), (1, .int (nI k)), (2, .int (nI p)), (3, .int (nI (by1 f p)))], [], M1)) rfl rfl rfl ?_
                                refine ps_st (S' := (266, [(7, .int 0), (0, .ref m0), (1, .int (nI k)), (2, .int (nI p)), (3, .int (nI (by1 f p)))], [.int 0], M1)) rfl rfl rfl ?_
                                refine ps_if (S1 := (277, [(0, .ref m0), (1, .int (nI k)), (2, .int (nI p)), (3, .int (nI (by1 f p)))], [], M1)) (S2 := (269, [(7, .int 0), (0, .ref m0), (1, .int (nI k)), (2, .int (nI p)), (3, .int (nI (by1 f p)))], [], M1)) rfl rfl rfl (fun c_266 => ?_) (fun c_266 => ?_)
                                · exact absurd (of_decide_eq_true c_266) (by decide)
                                refine ps_st (S' := (270, [(7, .int 0), (0, .ref m0), (1, .int (nI k)), (2, .int (nI p)), (3, .int (nI (by1 f p)))], [.ref m0], M1)) rfl rfl rfl ?_
                                refine ps_st (S' := (272, [(7, .int 0), (0, .ref m0), (1, .int (nI k)), (2, .int (nI p)), (3, .int (nI (by1 f p)))], [.int 12, .ref m0], M1)) rfl rfl rfl ?_
                                refine ps_st (S' := (273, [(7, .int 0), (0, .ref m0), (1, .int (nI k)), (2, .int (nI p)), (3, .int (nI (by1 f p)))], [.int (nI p), .int 12, .ref m0], M1)) rfl rfl rfl ?_
                                refine pl_call (a := [.ref m0, .int 12, .int (nI p)]) (rest := []) rfl rfl rfl (rd_wrong (x1 := 12) (x2 := (nI p)) hR1) (fun v272 M273 q274 => ?_)
                                obtain ⟨I275, R276, rfl, hR277, hI278, hX279, hi280, hi281⟩ := q274
                                have hi282 := (hI278 51 (by decide)).trans hl51
                                have hi283 := (hI278 52 (by decide)).trans hl52
                                have hi284 := (hI278 53 (by decide)).trans hl53
                                have hi285 := (hI278 9 (by decide)).trans hl9
                                have hF_286 := hF1.mono (cIx hI278 (by decide)) (cRx hX279 (by decide))
                                have hY_287 := hY1.mono (cIx hI278 (by decide)) (cRx hX279 (by decide))
                                have hP_288 := hP1.mono (cIx hI278 (by decide)) (cRx hX279 (by decide))
                                have hEI289 := hEI1.tr hI278 (by decide)
                                have hER290 := hER1.tr hX279 (by decide)
                                show pl _ _ _ (276, [(7, .int 0), (0, .ref m0), (1, .int (nI k)), (2, .int (nI p)), (3, .int (nI (by1 f p)))], [.int 0], M273) _
                                exact ps_ret rfl rfl (Or.inr ⟨(12, p), I275, R276, by
                                    have hb : brkN f n E mj k = 12 := by
                                      have e12 := nwt_9 (f := f) (n := n) (E := E) (k := k)
                                      have e13 := mrf_9 (f := f) (n := n) (E := E) (k := k)
                                      unfold brkN
                                      first | ((repeat first | rw [if_pos (by omega)] | rw [if_neg (by omega)]) <;> first | rfl | omega) | ((repeat' split) <;> first | rfl | (exfalso; omega) | omega)
                                    rw [← hs, chkP_st (k := k) (by omega), if_neg (by omega), if_neg (by omega), hb, htp], rfl, hR277, hEI289, hER290, hi280, hi281⟩)
                              · have c_254 : ¬ ((nI (nresN (tX f n E (se f E (se f E k))))) = 0) := of_decide_eq_false c_254
                                have n_254 : ¬ (nresN (tX f n E (se f E (se f E k))) = 0) := fun h9 => c_254 ((eq_nI (p := nresN (tX f n E (se f E (se f E k)))) (n := 0) (Nat.lt_trans (le1_nres _) (by decide)) (by decide)).mpr h9)
                                refine ps_st (S' := (258, [(0, .ref m0), (1, .int (nI k)), (2, .int (nI p)), (3, .int (nI (by1 f p)))], [.int 1], M1)) rfl rfl rfl ?_
                                refine ps_st (S' := (262, [(0, .ref m0), (1, .int (nI k)), (2, .int (nI p)), (3, .int (nI (by1 f p)))], [.int 1], M1)) rfl rfl rfl ?_
                                refine ps_st (S' := (264, [(7, .int 1), (0, .ref m0), (1, .int (nI k)), (2, .int (nI p)), (3, .int (nI (by1 f p)))], [], M1)) rfl rfl rfl ?_
                                refine ps_st (S' := (266, [(7, .int 1), (0, .ref m0), (1, .int (nI k)), (2, .int (nI p)), (3, .int (nI (by1 f p)))], [.int 1], M1)) rfl rfl rfl ?_
                                refine ps_if (S1 := (277, [(0, .ref m0), (1, .int (nI k)), (2, .int (nI p)), (3, .int (nI (by1 f p)))], [], M1)) (S2 := (269, [(7, .int 1), (0, .ref m0), (1, .int (nI k)), (2, .int (nI p)), (3, .int (nI (by1 f p)))], [], M1)) rfl rfl rfl (fun c_266 => ?_) (fun c_266 => ?_)
                                rotate_left
                                · exact absurd (by decide) (of_decide_eq_false c_266)
                                refine ps_st (S' := (278, [(0, .ref m0), (1, .int (nI k)), (2, .int (nI p)), (3, .int (nI (by1 f p)))], [.int (nI (by1 f p))], M1)) rfl rfl rfl ?_
                                refine ps_st (S' := (280, [(0, .ref m0), (1, .int (nI k)), (2, .int (nI p)), (3, .int (nI (by1 f p)))], [.int 15, .int (nI (by1 f p))], M1)) rfl rfl rfl ?_
                                refine ps_if2 (S1 := (299, [(0, .ref m0), (1, .int (nI k)), (2, .int (nI p)), (3, .int (nI (by1 f p)))], [], M1)) (S2 := (283, [(0, .ref m0), (1, .int (nI k)), (2, .int (nI p)), (3, .int (nI (by1 f p)))], [], M1)) rfl rfl rfl (fun c_280 => ?_) (fun c_280 => ?_)
                                rotate_left
                                · exact absurd (show ¬ ((nI (by1 f p)) = 15) from fun h9 => absurd ((eq_nI (p := by1 f p) (n := 15) (Nat.lt_trans (by1_lt _ _) (by decide)) (by decide)).mp h9) (by omega)) (of_decide_eq_false c_280)
                                refine ps_st (S' := (300, [(0, .ref m0), (1, .int (nI k)), (2, .int (nI p)), (3, .int (nI (by1 f p)))], [.int (nI (by1 f p))], M1)) rfl rfl rfl ?_
                                refine ps_st (S' := (302, [(0, .ref m0), (1, .int (nI k)), (2, .int (nI p)), (3, .int (nI (by1 f p)))], [.int 16, .int (nI (by1 f p))], M1)) rfl rfl rfl ?_
                                refine ps_if2 (S1 := (330, [(0, .ref m0), (1, .int (nI k)), (2, .int (nI p)), (3, .int (nI (by1 f p)))], [], M1)) (S2 := (305, [(0, .ref m0), (1, .int (nI k)), (2, .int (nI p)), (3, .int (nI (by1 f p)))], [], M1)) rfl rfl rfl (fun c_302 => ?_) (fun c_302 => ?_)
                                rotate_left
                                · exact absurd (show ¬ ((nI (by1 f p)) = 16) from fun h9 => absurd ((eq_nI (p := by1 f p) (n := 16) (Nat.lt_trans (by1_lt _ _) (by decide)) (by decide)).mp h9) (by omega)) (of_decide_eq_false c_302)
                                refine ps_st (S' := (331, [(0, .ref m0), (1, .int (nI k)), (2, .int (nI p)), (3, .int (nI (by1 f p)))], [.int (nI (by1 f p))], M1)) rfl rfl rfl ?_
                                refine ps_st (S' := (333, [(0, .ref m0), (1, .int (nI k)), (2, .int (nI p)), (3, .int (nI (by1 f p)))], [.int 17, .int (nI (by1 f p))], M1)) rfl rfl rfl ?_
                                refine ps_if2 (S1 := (342, [(0, .ref m0), (1, .int (nI k)), (2, .int (nI p)), (3, .int (nI (by1 f p)))], [], M1)) (S2 := (336, [(0, .ref m0), (1, .int (nI k)), (2, .int (nI p)), (3, .int (nI (by1 f p)))], [], M1)) rfl rfl rfl (fun c_333 => ?_) (fun c_333 => ?_)
                                · exact absurd (of_decide_eq_true c_333) (show ¬ ((nI (by1 f p)) = 17) from fun h9 => absurd ((eq_nI (p := by1 f p) (n := 17) (Nat.lt_trans (by1_lt _ _) (by decide)) (by decide)).mp h9) (by omega))
                                refine ps_st (S' := (337, [(0, .ref m0), (1, .int (nI k)), (2, .int (nI p)), (3, .int (nI (by1 f p)))], [.int (nI (by1 f p))], M1)) rfl rfl rfl ?_
                                refine ps_st (S' := (339, [(0, .ref m0), (1, .int (nI k)), (2, .int (nI p)), (3, .int (nI (by1 f p)))], [.int 18, .int (nI (by1 f p))], M1)) rfl rfl rfl ?_
                                refine ps_if2 (S1 := (420, [(0, .ref m0), (1, .int (nI k))], [], M1)) (S2 := (342, [(0, .ref m0), (1, .int (nI k)), (2, .int (nI p)), (3, .int (nI (by1 f p)))], [], M1)) rfl rfl rfl (fun c_339 => ?_) (fun c_339 => ?_)
                                rotate_left
                                · exact absurd (show ¬ ((nI (by1 f p)) = 18) from fun h9 => absurd ((eq_nI (p := by1 f p) (n := 18) (Nat.lt_trans (by1_lt _ _) (by decide)) (by decide)).mp h9) (by omega)) (of_decide_eq_false c_339)
                                refine ps_st (S' := (423, [(1, .int ((nI k) + 1)), (0, .ref m0)], [], M1)) rfl rfl rfl ?_
                                rw [nI_add1 (p := k) (k := 1) (x := 1) rfl (by omega)]
                                show pl _ _ _ (_, [(1, .int (nI (k + 1))), (0, .ref m0)], [], M1) _
                                refine ps_st (S' := (2, [(0, .ref m0), (1, .int (nI (k + 1)))], [], M1)) rfl rfl rfl ?_
                                exact ih (k + 1) M1 I1 R1 hR1 hEI1 hER1 hl51 hl52 hl53 hl9 hF1 hY1 hP1 (by omega) (by
                                    have hb : brkN f n E mj k = 0 := by
                                      have e12 := nwt_9 (f := f) (n := n) (E := E) (k := k)
                                      have e13 := mrf_9 (f := f) (n := n) (E := E) (k := k)
                                      unfold brkN
                                      first | ((repeat first | rw [if_pos (by omega)] | rw [if_neg (by omega)]) <;> first | rfl | omega) | ((repeat' split) <;> first | rfl | (exfalso; omega) | omega)
                                    rw [← hs, chkP_st (k := k) (by omega), if_neg (by omega), if_pos hb])
                    · have c_207 : ¬ (¬ (nI (by1 f p)) = 9) := of_decide_eq_false c_207
                      have n_207 : by1 f p = 9 := (eq_nI (p := by1 f p) (n := 9) (Nat.lt_trans (by1_lt _ _) (by decide)) (by decide)).mp (Decidable.not_not.mp c_207)
                      refine ps_st (S' := (211, [(6, .int (nI (angN (tX f n E (fi f E (se f E k)))))), (5, .int (nI s205)), (4, .int (nI s195)), (0, .ref m0), (1, .int (nI k)), (2, .int (nI p)), (3, .int (nI (by1 f p)))], [.ref m0], M1)) rfl rfl rfl ?_
                      refine ps_st (S' := (213, [(6, .int (nI (angN (tX f n E (fi f E (se f E k)))))), (5, .int (nI s205)), (4, .int (nI s195)), (0, .ref m0), (1, .int (nI k)), (2, .int (nI p)), (3, .int (nI (by1 f p)))], [.int (nI s205), .ref m0], M1)) rfl rfl rfl ?_
                      refine pl_call (a := [.ref m0, .int (nI s205)]) (rest := []) rfl rfl rfl (rd_isField (tx := tx) (cN := cN) (A := A) (s := s205) (l := (tX f n E (se f E (se f E k)))) hR1 hY1 (q191_s)) (fun v291 M292 q293 => ?_)
                      obtain ⟨rfl, rfl⟩ := q293
                      show pl _ _ _ (216, [(6, .int (nI (angN (tX f n E (fi f E (se f E k)))))), (5, .int (nI s205)), (4, .int (nI s195)), (0, .ref m0), (1, .int (nI k)), (2, .int (nI p)), (3, .int (nI (by1 f p)))], [.int (nI (fldN (tX f n E (se f E (se f E k)))))], M1) _
                      refine ps_st (S' := (262, [(0, .ref m0), (1, .int (nI k)), (2, .int (nI p)), (3, .int (nI (by1 f p)))], [.int (nI (fldN (tX f n E (se f E (se f E k)))))], M1)) rfl rfl rfl ?_
                      refine ps_st (S' := (264, [(7, .int (nI (fldN (tX f n E (se f E (se f E k)))))), (0, .ref m0), (1, .int (nI k)), (2, .int (nI p)), (3, .int (nI (by1 f p)))], [], M1)) rfl rfl rfl ?_
                      refine ps_st (S' := (266, [(7, .int (nI (fldN (tX f n E (se f E (se f E k)))))), (0, .ref m0), (1, .int (nI k)), (2, .int (nI p)), (3, .int (nI (by1 f p)))], [.int (nI (fldN (tX f n E (se f E (se f E k)))))], M1)) rfl rfl rfl ?_
                      refine ps_if (S1 := (277, [(0, .ref m0), (1, .int (nI k)), (2, .int (nI p)), (3, .int (nI (by1 f p)))], [], M1)) (S2 := (269, [(7, .int (nI (fldN (tX f n E (se f E (se f E k)))))), (0, .ref m0), (1, .int (nI k)), (2, .int (nI p)), (3, .int (nI (by1 f p)))], [], M1)) rfl rfl rfl (fun c_266 => ?_) (fun c_266 => ?_)
                      · have c_266 : ¬ (nI (fldN (tX f n E (se f E (se f E k))))) = 0 := of_decide_eq_true c_266
                        have n_266 : ¬ (fldN (tX f n E (se f E (se f E k))) = 0) := fun h9 => c_266 ((eq_nI (p := fldN (tX f n E (se f E (se f E k)))) (n := 0) (Nat.lt_trans (le1_fld _) (by decide)) (by decide)).mpr h9)
                        refine ps_st (S' := (278, [(0, .ref m0), (1, .int (nI k)), (2, .int (nI p)), (3, .int (nI (by1 f p)))], [.int (nI (by1 f p))], M1)) rfl rfl rfl ?_
                        refine ps_st (S' := (280, [(0, .ref m0), (1, .int (nI k)), (2, .int (nI p)), (3, .int (nI (by1 f p)))], [.int 15, .int (nI (by1 f p))], M1)) rfl rfl rfl ?_
                        refine ps_if2 (S1 := (299, [(0, .ref m0), (1, .int (nI k)), (2, .int (nI p)), (3, .int (nI (by1 f p)))], [], M1)) (S2 := (283, [(0, .ref m0), (1, .int (nI k)), (2, .int (nI p)), (3, .int (nI (by1 f p)))], [], M1)) rfl rfl rfl (fun c_280 => ?_) (fun c_280 => ?_)
                        rotate_left
                        · exact absurd (show ¬ ((nI (by1 f p)) = 15) from fun h9 => absurd ((eq_nI (p := by1 f p) (n := 15) (Nat.lt_trans (by1_lt _ _) (by decide)) (by decide)).mp h9) (by omega)) (of_decide_eq_false c_280)
                        refine ps_st (S' := (300, [(0, .ref m0), (1, .int (nI k)), (2, .int (nI p)), (3, .int (nI (by1 f p)))], [.int (nI (by1 f p))], M1)) rfl rfl rfl ?_
                        refine ps_st (S' := (302, [(0, .ref m0), (1, .int (nI k)), (2, .int (nI p)), (3, .int (nI (by1 f p)))], [.int 16, .int (nI (by1 f p))], M1)) rfl rfl rfl ?_
                        refine ps_if2 (S1 := (330, [(0, .ref m0), (1, .int (nI k)), (2, .int (nI p)), (3, .int (nI (by1 f p)))], [], M1)) (S2 := (305, [(0, .ref m0), (1, .int (nI k)), (2, .int (nI p)), (3, .int (nI (by1 f p)))], [], M1)) rfl rfl rfl (fun c_302 => ?_) (fun c_302 => ?_)
                        rotate_left
                        · exact absurd (show ¬ ((nI (by1 f p)) = 16) from fun h9 => absurd ((eq_nI (p := by1 f p) (n := 16) (Nat.lt_trans (by1_lt _ _) (by decide)) (by decide)).mp h9) (by omega)) (of_decide_eq_false c_302)
                        refine ps_st (S' := (331, [(0, .ref m0), (1, .int (nI k)), (2, .int (nI p)), (3, .int (nI (by1 f p)))], [.int (nI (by1 f p))], M1)) rfl rfl rfl ?_
                        refine ps_st (S' := (333, [(0, .ref m0), (1, .int (nI k)), (2, .int (nI p)), (3, .int (nI (by1 f p)))], [.int 17, .int (nI (by1 f p))], M1)) rfl rfl rfl ?_
                        refine ps_if2 (S1 := (342, [(0, .ref m0), (1, .int (nI k)), (2, .int (nI p)), (3, .int (nI (by1 f p)))], [], M1)) (S2 := (336, [(0, .ref m0), (1, .int (nI k)), (2, .int (nI p)), (3, .int (nI (by1 f p)))], [], M1)) rfl rfl rfl (fun c_333 => ?_) (fun c_333 => ?_)
                        · exact absurd (of_decide_eq_true c_333) (show ¬ ((nI (by1 f p)) = 17) from fun h9 => absurd ((eq_nI (p := by1 f p) (n := 17) (Nat.lt_trans (by1_lt _ _) (by decide)) (by decide)).mp h9) (by omega))
                        refine ps_st (S' := (337, [(0, .ref m0), (1, .int (nI k)), (2, .int (nI p)), (3, .int (nI (by1 f p)))], [.int (nI (by1 f p))], M1)) rfl rfl rfl ?_
                        refine ps_st (S' := (339, [(0, .ref m0), (1, .int (nI k)), (2, .int (nI p)), (3, .int (nI (by1 f p)))], [.int 18, .int (nI (by1 f p))], M1)) rfl rfl rfl ?_
                        refine ps_if2 (S1 := (420, [(0, .ref m0), (1, .int (nI k))], [], M1)) (S2 := (342, [(0, .ref m0), (1, .int (nI k)), (2, .int (nI p)), (3, .int (nI (by1 f p)))], [], M1)) rfl rfl rfl (fun c_339 => ?_) (fun c_339 => ?_)
                        rotate_left
                        · exact absurd (show ¬ ((nI (by1 f p)) = 18) from fun h9 => absurd ((eq_nI (p := by1 f p) (n := 18) (Nat.lt_trans (by1_lt _ _) (by decide)) (by decide)).mp h9) (by omega)) (of_decide_eq_false c_339)
                        refine ps_st (S' := (423, [(1, .int ((nI k) + 1)), (0, .ref m0)], [], M1)) rfl rfl rfl ?_
                        rw [nI_add1 (p := k) (k := 1) (x := 1) rfl (by omega)]
                        show pl _ _ _ (_, [(1, .int (nI (k + 1))), (0, .ref m0)], [], M1) _
                        refine ps_st (S' := (2, [(0, .ref m0), (1, .int (nI (k + 1)))], [], M1)) rfl rfl rfl ?_
                        exact ih (k + 1) M1 I1 R1 hR1 hEI1 hER1 hl51 hl52 hl53 hl9 hF1 hY1 hP1 (by omega) (by
                            have hb : brkN f n E mj k = 0 := by
                              have e12 := nwt_9 (f := f) (n := n) (E := E) (k := k)
                              have e13 := mrf_9 (f := f) (n := n) (E := E) (k := k)
                              unfold brkN
                              first | ((repeat first | rw [if_pos (by omega)] | rw [if_neg (by omega)]) <;> first | rfl | omega) | ((repeat' split) <;> first | rfl | (exfalso; omega) | omega)
                            rw [← hs, chkP_st (k := k) (by omega), if_neg (by omega), if_pos hb])
                      · have c_266 : ¬ (¬ (nI (fldN (tX f n E (se f E (se f E k))))) = 0) := of_decide_eq_false c_266
                        have n_266 : fldN (tX f n E (se f E (se f E k))) = 0 := (eq_nI (p := fldN (tX f n E (se f E (se f E k)))) (n := 0) (Nat.lt_trans (le1_fld _) (by decide)) (by decide)).mp (Decidable.not_not.mp c_266)
                        refine ps_st (S' := (270, [(7, .int (nI (fldN (tX f n E (se f E (se f E k)))))), (0, .ref m0), (1, .int (nI k)), (2, .int (nI p)), (3, .int (nI (by1 f p)))], [.ref m0], M1)) rfl rfl rfl ?_
                        refine ps_st (S' := (272, [(7, .int (nI (fldN (tX f n E (se f E (se f E k)))))), (0, .ref m0), (1, .int (nI k)), (2, .int (nI p)), (3, .int (nI (by1 f p)))], [.int 12, .ref m0], M1)) rfl rfl rfl ?_
                        refine ps_st (S' := (273, [(7, .int (nI (fldN (tX f n E (se f E (se f E k)))))), (0, .ref m0), (1, .int (nI k)), (2, .int (nI p)), (3, .int (nI (by1 f p)))], [.int (nI p), .int 12, .ref m0], M1)) rfl rfl rfl ?_
                        refine pl_call (a := [.ref m0, .int 12, .int (nI p)]) (rest := []) rfl rfl rfl (rd_wrong (x1 := 12) (x2 := (nI p)) hR1) (fun v294 M295 q296 => ?_)
                        obtain ⟨I297, R298, rfl, hR299, hI300, hX301, hi302, hi303⟩ := q296
                        have hi304 := (hI300 51 (by decide)).trans hl51
                        have hi305 := (hI300 52 (by decide)).trans hl52
                        have hi306 := (hI300 53 (by decide)).trans hl53
                        have hi307 := (hI300 9 (by decide)).trans hl9
                        have hF_308 := hF1.mono (cIx hI300 (by decide)) (cRx hX301 (by decide))
                        have hY_309 := hY1.mono (cIx hI300 (by decide)) (cRx hX301 (by decide))
                        have hP_310 := hP1.mono (cIx hI300 (by decide)) (cRx hX301 (by decide))
                        have hEI311 := hEI1.tr hI300 (by decide)
                        have hER312 := hER1.tr hX301 (by decide)
                        show pl _ _ _ (276, [(7, .int (nI (fldN (tX f n E (se f E (se f E k)))))), (0, .ref m0), (1, .int (nI k)), (2, .int (nI p)), (3, .int (nI (by1 f p)))], [.int 0], M295) _
                        exact ps_ret rfl rfl (Or.inr ⟨(12, p), I297, R298, by
                            have hb : brkN f n E mj k = 12 := by
                              have e12 := nwt_9 (f := f) (n := n) (E := E) (k := k)
                              have e13 := mrf_9 (f := f) (n := n) (E := E) (k := k)
                              unfold brkN
                              first | ((repeat first | rw [if_pos (by omega)] | rw [if_neg (by omega)]) <;> first | rfl | omega) | ((repeat' split) <;> first | rfl | (exfalso; omega) | omega)
                            rw [← hs, chkP_st (k := k) (by omega), if_neg (by omega), if_neg (by omega), hb, htp], rfl, hR299, hEI311, hER312, hi302, hi303⟩)
              · have c_87 : ¬ (¬ (nI (by1 f p)) = 12) := of_decide_eq_false c_87
                have n_87 : by1 f p = 12 := (eq_nI (p := by1 f p) (n := 12) (Nat.lt_trans (by1_lt _ _) (by decide)) (by decide)).mp (Decidable.not_not.mp c_87)
                refine ps_st (S' := (91, [(0, .ref m0), (1, .int (nI k)), (2, .int (nI p)), (3, .int (nI (by1 f p)))], [.ref m0], M1)) rfl rfl rfl ?_
                refine ps_st (S' := (92, [(0, .ref m0), (1, .int (nI k)), (2, .int (nI p)), (3, .int (nI (by1 f p)))], [.ref m0, .ref m0], M1)) rfl rfl rfl ?_
                refine ps_st (S' := (93, [(0, .ref m0), (1, .int (nI k)), (2, .int (nI p)), (3, .int (nI (by1 f p)))], [.ref m0, .ref m0, .ref m0], M1)) rfl rfl rfl ?_
                refine ps_st (S' := (94, [(0, .ref m0), (1, .int (nI k)), (2, .int (nI p)), (3, .int (nI (by1 f p)))], [.int (nI k), .ref m0, .ref m0, .ref m0], M1)) rfl rfl rfl ?_
                refine ps_st (S' := (95, [(0, .ref m0), (1, .int (nI k)), (2, .int (nI p)), (3, .int (nI (by1 f p)))], [.int 1, .int (nI k), .ref m0, .ref m0, .ref m0], M1)) rfl rfl rfl ?_
                refine pl_call (a := [.ref m0, .int (nI k), .int 1]) (rest := [.ref m0, .ref m0]) rfl rfl rfl (rd_idx1 (n := n) (f := f) (tx := tx) (cN := cN) (A := A) (N := N) (mj := mj) (E := E) (k := k) hR1 hl51 hl52 hl53 hF1 hY1 hP1 (hEP) (hN) (hmj) (by omega)) (fun v313 M314 q315 => ?_)
                obtain ⟨rfl, rfl⟩ := q315
                show pl _ _ _ (98, [(0, .ref m0), (1, .int (nI k)), (2, .int (nI p)), (3, .int (nI (by1 f p)))], [.int (nI (fi f E k)), .ref m0, .ref m0], M1) _
                have hix_95 := fi_lt f E k
                refine pl_call (a := [.ref m0, .int (nI (fi f E k))]) (rest := [.ref m0]) rfl rfl rfl (rd_symOf (n := n) (f := f) (tx := tx) (cN := cN) (A := A) (N := N) (mj := mj) (E := E) (k := (fi f E k)) hR1 hl51 hl52 hl53 hF1 hY1 hP1 (hEP) (hN) (hmj) (by omega)) (fun v316 M317 q318 => ?_)
                obtain ⟨s319, q98_s, rfl, rfl⟩ := q318
                show pl _ _ _ (101, [(0, .ref m0), (1, .int (nI k)), (2, .int (nI p)), (3, .int (nI (by1 f p)))], [.int (nI s319), .ref m0], M1) _
                have hsl_98 := q98_s.1
                have htl_98 := hY1.1.2.2.1
                refine ps_st (S' := (102, [(0, .ref m0), (1, .int (nI k)), (2, .int (nI p)), (3, .int (nI (by1 f p)))], [.int 1, .int (nI s319), .ref m0], M1)) rfl rfl rfl ?_
                refine pl_call (a := [.ref m0, .int (nI s319), .int 1]) (rest := []) rfl rfl rfl (rd_unq1 (tx := tx) (cN := cN) (A := A) (s := s319) (l := (tX f n E (fi f E k))) hR1 hY1 (q98_s)) (fun v320 M321 q322 => ?_)
                obtain ⟨rfl, rfl⟩ := q322
                show pl _ _ _ (105, [(0, .ref m0), (1, .int (nI k)), (2, .int (nI p)), (3, .int (nI (by1 f p)))], [.int (nI (unqN (tX f n E (fi f E k))))], M1) _
                refine ps_if (S1 := (142, [(0, .ref m0), (2, .int (nI p))], [], M1)) (S2 := (108, [(0, .ref m0), (1, .int (nI k)), (2, .int (nI p)), (3, .int (nI (by1 f p)))], [], M1)) rfl rfl rfl (fun c_105 => ?_) (fun c_105 => ?_)
                · have c_105 : (nI (unqN (tX f n E (fi f E k)))) = 0 := of_decide_eq_true c_105
                  have n_105 : unqN (tX f n E (fi f E k)) = 0 := (eq_nI (p := unqN (tX f n E (fi f E k))) (n := 0) (Nat.lt_trans (le1_unq _) (by decide)) (by decide)).mp c_105
                  refine ps_st (S' := (143, [(0, .ref m0), (2, .int (nI p))], [.ref m0], M1)) rfl rfl rfl ?_
                  refine ps_st (S' := (145, [(0, .ref m0), (2, .int (nI p))], [.int 11, .ref m0], M1)) rfl rfl rfl ?_
                  refine ps_st (S' := (146, [(0, .ref m0), (2, .int (nI p))], [.int (nI p), .int 11, .ref m0], M1)) rfl rfl rfl ?_
                  refine pl_call (a := [.ref m0, .int 11, .int (nI p)]) (rest := []) rfl rfl rfl (rd_wrong (x1 := 11) (x2 := (nI p)) hR1) (fun v323 M324 q325 => ?_)
                  obtain ⟨I326, R327, rfl, hR328, hI329, hX330, hi331, hi332⟩ := q325
                  have hi333 := (hI329 51 (by decide)).trans hl51
                  have hi334 := (hI329 52 (by decide)).trans hl52
                  have hi335 := (hI329 53 (by decide)).trans hl53
                  have hi336 := (hI329 9 (by decide)).trans hl9
                  have hF_337 := hF1.mono (cIx hI329 (by decide)) (cRx hX330 (by decide))
                  have hY_338 := hY1.mono (cIx hI329 (by decide)) (cRx hX330 (by decide))
                  have hP_339 := hP1.mono (cIx hI329 (by decide)) (cRx hX330 (by decide))
                  have hEI340 := hEI1.tr hI329 (by decide)
                  have hER341 := hER1.tr hX330 (by decide)
                  show pl _ _ _ (149, [(0, .ref m0), (2, .int (nI p))], [.int 0], M324) _
                  exact ps_ret rfl rfl (Or.inr ⟨(11, p), I326, R327, by
                      have hb : brkN f n E mj k = 11 := by
                        have e12 := nwt_9 (f := f) (n := n) (E := E) (k := k)
                        have e13 := mrf_9 (f := f) (n := n) (E := E) (k := k)
                        unfold brkN
                        first | ((repeat first | rw [if_pos (by omega)] | rw [if_neg (by omega)]) <;> first | rfl | omega) | ((repeat' split) <;> first | rfl | (exfalso; omega) | omega)
                      rw [← hs, chkP_st (k := k) (by omega), if_neg (by omega), if_neg (by omega), hb, htp], rfl, hR328, hEI340, hER341, hi331, hi332⟩)
                · have c_105 : ¬ ((nI (unqN (tX f n E (fi f E k)))) = 0) := of_decide_eq_false c_105
                  have n_105 : ¬ (unqN (tX f n E (fi f E k)) = 0) := fun h9 => c_105 ((eq_nI (p := unqN (tX f n E (fi f E k))) (n := 0) (Nat.lt_trans (le1_unq _) (by decide)) (by decide)).mpr h9)
                  refine ps_st (S' := (109, [(0, .ref m0), (1, .int (nI k)), (2, .int (nI p)), (3, .int (nI (by1 f p)))], [.ref m0], M1)) rfl rfl rfl ?_
                  refine ps_st (S' := (110, [(0, .ref m0), (1, .int (nI k)), (2, .int (nI p)), (3, .int (nI (by1 f p)))], [.ref m0, .ref m0], M1)) rfl rfl rfl ?_
                  refine ps_st (S' := (111, [(0, .ref m0), (1, .int (nI k)), (2, .int (nI p)), (3, .int (nI (by1 f p)))], [.ref m0, .ref m0, .ref m0], M1)) rfl rfl rfl ?_
                  refine ps_st (S' := (112, [(0, .ref m0), (1, .int (nI k)), (2, .int (nI p)), (3, .int (nI (by1 f p)))], [.int (nI k), .ref m0, .ref m0, .ref m0], M1)) rfl rfl rfl ?_
                  refine ps_st (S' := (113, [(0, .ref m0), (1, .int (nI k)), (2, .int (nI p)), (3, .int (nI (by1 f p)))], [.int 3, .int (nI k), .ref m0, .ref m0, .ref m0], M1)) rfl rfl rfl ?_
                  refine pl_call (a := [.ref m0, .int (nI k), .int 3]) (rest := [.ref m0, .ref m0]) rfl rfl rfl (rd_idx3 (n := n) (f := f) (tx := tx) (cN := cN) (A := A) (N := N) (mj := mj) (E := E) (k := k) hR1 hl51 hl52 hl53 hF1 hY1 hP1 (hEP) (hN) (hmj) (by omega)) (fun v342 M343 q344 => ?_)
                  obtain ⟨rfl, rfl⟩ := q344
                  show pl _ _ _ (116, [(0, .ref m0), (1, .int (nI k)), (2, .int (nI p)), (3, .int (nI (by1 f p)))], [.int (nI (se f E k)), .ref m0, .ref m0], M1) _
                  have hix_113 := se_lt f E k
                  refine pl_call (a := [.ref m0, .int (nI (se f E k))]) (rest := [.ref m0]) rfl rfl rfl (rd_symOf (n := n) (f := f) (tx := tx) (cN := cN) (A := A) (N := N) (mj := mj) (E := E) (k := (se f E k)) hR1 hl51 hl52 hl53 hF1 hY1 hP1 (hEP) (hN) (hmj) (by omega)) (fun v345 M346 q347 => ?_)
                  obtain ⟨s348, q116_s, rfl, rfl⟩ := q347
                  show pl _ _ _ (119, [(0, .ref m0), (1, .int (nI k)), (2, .int (nI p)), (3, .int (nI (by1 f p)))], [.int (nI s348), .ref m0], M1) _
                  have hsl_116 := q116_s.1
                  have htl_116 := hY1.1.2.2.1
                  refine pl_call (a := [.ref m0, .int (nI s348)]) (rest := []) rfl rfl rfl (rd_isField (tx := tx) (cN := cN) (A := A) (s := s348) (l := (tX f n E (se f E k))) hR1 hY1 (q116_s)) (fun v349 M350 q351 => ?_)
                  obtain ⟨rfl, rfl⟩ := q351
                  show pl _ _ _ (122, [(0, .ref m0), (1, .int (nI k)), (2, .int (nI p)), (3, .int (nI (by1 f p)))], [.int (nI (fldN (tX f n E (se f E k))))], M1) _
                  refine ps_if (S1 := (150, [(0, .ref m0), (1, .int (nI k)), (2, .int (nI p)), (3, .int (nI (by1 f p)))], [], M1)) (S2 := (125, [(0, .ref m0), (1, .int (nI k)), (2, .int (nI p)), (3, .int (nI (by1 f p)))], [], M1)) rfl rfl rfl (fun c_122 => ?_) (fun c_122 => ?_)
                  · have c_122 : ¬ (nI (fldN (tX f n E (se f E k)))) = 0 := of_decide_eq_true c_122
                    have n_122 : ¬ (fldN (tX f n E (se f E k)) = 0) := fun h9 => c_122 ((eq_nI (p := fldN (tX f n E (se f E k))) (n := 0) (Nat.lt_trans (le1_fld _) (by decide)) (by decide)).mpr h9)
                    refine ps_st (S' := (151, [(0, .ref m0), (1, .int (nI k)), (2, .int (nI p)), (3, .int (nI (by1 f p)))], [.int (nI (by1 f p))], M1)) rfl rfl rfl ?_
                    refine ps_st (S' := (153, [(0, .ref m0), (1, .int (nI k)), (2, .int (nI p)), (3, .int (nI (by1 f p)))], [.int 9, .int (nI (by1 f p))], M1)) rfl rfl rfl ?_
                    refine ps_if2 (S1 := (277, [(0, .ref m0), (1, .int (nI k)), (2, .int (nI p)), (3, .int (nI (by1 f p)))], [], M1)) (S2 := (156, [(0, .ref m0), (1, .int (nI k)), (2, .int (nI p)), (3, .int (nI (by1 f p)))], [], M1)) rfl rfl rfl (fun c_153 => ?_) (fun c_153 => ?_)
                    · exact absurd (of_decide_eq_true c_153) (show ¬ ((nI (by1 f p)) < 9) from fun h9 => absurd ((lt_nI (p := by1 f p) (n := 9) (Nat.lt_trans (by1_lt _ _) (by decide)) (by decide)).mp h9) (by omega))
                    refine ps_st (S' := (157, [(0, .ref m0), (1, .int (nI k)), (2, .int (nI p)), (3, .int (nI (by1 f p)))], [.int (nI (by1 f p))], M1)) rfl rfl rfl ?_
                    refine ps_st (S' := (159, [(0, .ref m0), (1, .int (nI k)), (2, .int (nI p)), (3, .int (nI (by1 f p)))], [.int 11, .int (nI (by1 f p))], M1)) rfl rfl rfl ?_
                    refine ps_if2 (S1 := (277, [(0, .ref m0), (1, .int (nI k)), (2, .int (nI p)), (3, .int (nI (by1 f p)))], [], M1)) (S2 := (162, [(0, .ref m0), (1, .int (nI k)), (2, .int (nI p)), (3, .int (nI (by1 f p)))], [], M1)) rfl rfl rfl (fun c_159 => ?_) (fun c_159 => ?_)
                    rotate_left
                    · exact absurd ((lt_nI (p := 11) (n := by1 f p) (by decide) (Nat.lt_trans (by1_lt _ _) (by decide))).mpr (by omega)) (of_decide_eq_false c_159)
                    refine ps_st (S' := (278, [(0, .ref m0), (1, .int (nI k)), (2, .int (nI p)), (3, .int (nI (by1 f p)))], [.int (nI (by1 f p))], M1)) rfl rfl rfl ?_
                    refine ps_st (S' := (280, [(0, .ref m0), (1, .int (nI k)), (2, .int (nI p)), (3, .int (nI (by1 f p)))], [.int 15, .int (nI (by1 f p))], M1)) rfl rfl rfl ?_
                    refine ps_if2 (S1 := (299, [(0, .ref m0), (1, .int (nI k)), (2, .int (nI p)), (3, .int (nI (by1 f p)))], [], M1)) (S2 := (283, [(0, .ref m0), (1, .int (nI k)), (2, .int (nI p)), (3, .int (nI (by1 f p)))], [], M1)) rfl rfl rfl (fun c_280 => ?_) (fun c_280 => ?_)
                    rotate_left
                    · exact absurd (show ¬ ((nI (by1 f p)) = 15) from fun h9 => absurd ((eq_nI (p := by1 f p) (n := 15) (Nat.lt_trans (by1_lt _ _) (by decide)) (by decide)).mp h9) (by omega)) (of_decide_eq_false c_280)
                    refine ps_st (S' := (300, [(0, .ref m0), (1, .int (nI k)), (2, .int (nI p)), (3, .int (nI (by1 f p)))], [.int (nI (by1 f p))], M1)) rfl rfl rfl ?_
                    refine ps_st (S' := (302, [(0, .ref m0), (1, .int (nI k)), (2, .int (nI p)), (3, .int (nI (by1 f p)))], [.int 16, .int (nI (by1 f p))], M1)) rfl rfl rfl ?_
                    refine ps_if2 (S1 := (330, [(0, .ref m0), (1, .int (nI k)), (2, .int (nI p)), (3, .int (nI (by1 f p)))], [], M1)) (S2 := (305, [(0, .ref m0), (1, .int (nI k)), (2, .int (nI p)), (3, .int (nI (by1 f p)))], [], M1)) rfl rfl rfl (fun c_302 => ?_) (fun c_302 => ?_)
                    rotate_left
                    · exact absurd (show ¬ ((nI (by1 f p)) = 16) from fun h9 => absurd ((eq_nI (p := by1 f p) (n := 16) (Nat.lt_trans (by1_lt _ _) (by decide)) (by decide)).mp h9) (by omega)) (of_decide_eq_false c_302)
                    refine ps_st (S' := (331, [(0, .ref m0), (1, .int (nI k)), (2, .int (nI p)), (3, .int (nI (by1 f p)))], [.int (nI (by1 f p))], M1)) rfl rfl rfl ?_
                    refine ps_st (S' := (333, [(0, .ref m0), (1, .int (nI k)), (2, .int (nI p)), (3, .int (nI (by1 f p)))], [.int 17, .int (nI (by1 f p))], M1)) rfl rfl rfl ?_
                    refine ps_if2 (S1 := (342, [(0, .ref m0), (1, .int (nI k)), (2, .int (nI p)), (3, .int (nI (by1 f p)))], [], M1)) (S2 := (336, [(0, .ref m0), (1, .int (nI k)), (2, .int (nI p)), (3, .int (nI (by1 f p)))], [], M1)) rfl rfl rfl (fun c_333 => ?_) (fun c_333 => ?_)
                    · exact absurd (of_decide_eq_true c_333) (show ¬ ((nI (by1 f p)) = 17) from fun h9 => absurd ((eq_nI (p := by1 f p) (n := 17) (Nat.lt_trans (by1_lt _ _) (by decide)) (by decide)).mp h9) (by omega))
                    refine ps_st (S' := (337, [(0, .ref m0), (1, .int (nI k)), (2, .int (nI p)), (3, .int (nI (by1 f p)))], [.int (nI (by1 f p))], M1)) rfl rfl rfl ?_
                    refine ps_st (S' := (339, [(0, .ref m0), (1, .int (nI k)), (2, .int (nI p)), (3, .int (nI (by1 f p)))], [.int 18, .int (nI (by1 f p))], M1)) rfl rfl rfl ?_
                    refine ps_if2 (S1 := (420, [(0, .ref m0), (1, .int (nI k))], [], M1)) (S2 := (342, [(0, .ref m0), (1, .int (nI k)), (2, .int (nI p)), (3, .int (nI (by1 f p)))], [], M1)) rfl rfl rfl (fun c_339 => ?_) (fun c_339 => ?_)
                    rotate_left
                    · exact absurd (show ¬ ((nI (by1 f p)) = 18) from fun h9 => absurd ((eq_nI (p := by1 f p) (n := 18) (Nat.lt_trans (by1_lt _ _) (by decide)) (by decide)).mp h9) (by omega)) (of_decide_eq_false c_339)
                    refine ps_st (S' := (423, [(1, .int ((nI k) + 1)), (0, .ref m0)], [], M1)) rfl rfl rfl ?_
                    rw [nI_add1 (p := k) (k := 1) (x := 1) rfl (by omega)]
                    show pl _ _ _ (_, [(1, .int (nI (k + 1))), (0, .ref m0)], [], M1) _
                    refine ps_st (S' := (2, [(0, .ref m0), (1, .int (nI (k + 1)))], [], M1)) rfl rfl rfl ?_
                    exact ih (k + 1) M1 I1 R1 hR1 hEI1 hER1 hl51 hl52 hl53 hl9 hF1 hY1 hP1 (by omega) (by
                        have hb : brkN f n E mj k = 0 := by
                          have e12 := nwt_9 (f := f) (n := n) (E := E) (k := k)
                          have e13 := mrf_9 (f := f) (n := n) (E := E) (k := k)
                          unfold brkN
                          first | ((repeat first | rw [if_pos (by omega)] | rw [if_neg (by omega)]) <;> first | rfl | omega) | ((repeat' split) <;> first | rfl | (exfalso; omega) | omega)
                        rw [← hs, chkP_st (k := k) (by omega), if_neg (by omega), if_pos hb])
                  · have c_122 : ¬ (¬ (nI (fldN (tX f n E (se f E k)))) = 0) := of_decide_eq_false c_122
                    have n_122 : fldN (tX f n E (se f E k)) = 0 := (eq_nI (p := fldN (tX f n E (se f E k))) (n := 0) (Nat.lt_trans (le1_fld _) (by decide)) (by decide)).mp (Decidable.not_not.mp c_122)
                    refine ps_st (S' := (126, [(0, .ref m0), (1, .int (nI k)), (2, .int (nI p)), (3, .int (nI (by1 f p)))], [.ref m0], M1)) rfl rfl rfl ?_
                    refine ps_st (S' := (127, [(0, .ref m0), (1, .int (nI k)), (2, .int (nI p)), (3, .int (nI (by1 f p)))], [.ref m0, .ref m0], M1)) rfl rfl rfl ?_
                    refine ps_st (S' := (128, [(0, .ref m0), (1, .int (nI k)), (2, .int (nI p)), (3, .int (nI (by1 f p)))], [.ref m0, .ref m0, .ref m0], M1)) rfl rfl rfl ?_
                    refine ps_st (S' := (129, [(0, .ref m0), (1, .int (nI k)), (2, .int (nI p)), (3, .int (nI (by1 f p)))], [.int (nI k), .ref m0, .ref m0, .ref m0], M1)) rfl rfl rfl ?_
                    refine ps_st (S' := (130, [(0, .ref m0), (1, .int (nI k)), (2, .int (nI p)), (3, .int (nI (by1 f p)))], [.int 3, .int (nI k), .ref m0, .ref m0, .ref m0], M1)) rfl rfl rfl ?_
                    refine pl_call (a := [.ref m0, .int (nI k), .int 3]) (rest := [.ref m0, .ref m0]) rfl rfl rfl (rd_idx3 (n := n) (f := f) (tx := tx) (cN := cN) (A := A) (N := N) (mj := mj) (E := E) (k := k) hR1 hl51 hl52 hl53 hF1 hY1 hP1 (hEP) (hN) (hmj) (by omega)) (fun v352 M353 q354 => ?_)
                    obtain ⟨rfl, rfl⟩ := q354
                    show pl _ _ _ (133, [(0, .ref m0), (1, .int (nI k)), (2, .int (nI p)), (3, .int (nI (by1 f p)))], [.int (nI (se f E k)), .ref m0, .ref m0], M1) _
                    have hix_130 := se_lt f E k
                    refine pl_call (a := [.ref m0, .int (nI (se f E k))]) (rest := [.ref m0]) rfl rfl rfl (rd_symOf (n := n) (f := f) (tx := tx) (cN := cN) (A := A) (N := N) (mj := mj) (E := E) (k := (se f E k)) hR1 hl51 hl52 hl53 hF1 hY1 hP1 (hEP) (hN) (hmj) (by omega)) (fun v355 M356 q357 => ?_)
                    obtain ⟨s358, q133_s, rfl, rfl⟩ := q357
                    show pl _ _ _ (136, [(0, .ref m0), (1, .int (nI k)), (2, .int (nI p)), (3, .int (nI (by1 f p)))], [.int (nI s358), .ref m0], M1) _
                    have hsl_133 := q133_s.1
                    have htl_133 := hY1.1.2.2.1
                    refine pl_call (a := [.ref m0, .int (nI s358)]) (rest := []) rfl rfl rfl (rd_isMethod (tx := tx) (cN := cN) (A := A) (s := s358) (l := (tX f n E (se f E k))) hR1 hY1 (q133_s)) (fun v359 M360 q361 => ?_)
                    obtain ⟨rfl, rfl⟩ := q361
                    show pl _ _ _ (139, [(0, .ref m0), (1, .int (nI k)), (2, .int (nI p)), (3, .int (nI (by1 f p)))], [.int (nI (mthN (tX f n E (se f E k))))], M1) _
                    refine ps_if (S1 := (150, [(0, .ref m0), (1, .int (nI k)), (2, .int (nI p)), (3, .int (nI (by1 f p)))], [], M1)) (S2 := (142, [(0, .ref m0), (2, .int (nI p))], [], M1)) rfl rfl rfl (fun c_139 => ?_) (fun c_139 => ?_)
                    · have c_139 : ¬ (nI (mthN (tX f n E (se f E k)))) = 0 := of_decide_eq_true c_139
                      have n_139 : ¬ (mthN (tX f n E (se f E k)) = 0) := fun h9 => c_139 ((eq_nI (p := mthN (tX f n E (se f E k))) (n := 0) (Nat.lt_trans (le1_mth _) (by decide)) (by decide)).mpr h9)
                      refine ps_st (S' := (151, [(0, .ref m0), (1, .int (nI k)), (2, .int (nI p)), (3, .int (nI (by1 f p)))], [.int (nI (by1 f p))], M1)) rfl rfl rfl ?_
                      refine ps_st (S' := (153, [(0, .ref m0), (1, .int (nI k)), (2, .int (nI p)), (3, .int (nI (by1 f p)))], [.int 9, .int (nI (by1 f p))], M1)) rfl rfl rfl ?_
                      refine ps_if2 (S1 := (277, [(0, .ref m0), (1, .int (nI k)), (2, .int (nI p)), (3, .int (nI (by1 f p)))], [], M1)) (S2 := (156, [(0, .ref m0), (1, .int (nI k)), (2, .int (nI p)), (3, .int (nI (by1 f p)))], [], M1)) rfl rfl rfl (fun c_153 => ?_) (fun c_153 => ?_)
                      · exact absurd (of_decide_eq_true c_153) (show ¬ ((nI (by1 f p)) < 9) from fun h9 => absurd ((lt_nI (p := by1 f p) (n := 9) (Nat.lt_trans (by1_lt _ _) (by decide)) (by decide)).mp h9) (by omega))
                      refine ps_st (S' := (157, [(0, .ref m0), (1, .int (nI k)), (2, .int (nI p)), (3, .int (nI (by1 f p)))], [.int (nI (by1 f p))], M1)) rfl rfl rfl ?_
                      refine ps_st (S' := (159, [(0, .ref m0), (1, .int (nI k)), (2, .int (nI p)), (3, .int (nI (by1 f p)))], [.int 11, .int (nI (by1 f p))], M1)) rfl rfl rfl ?_
                      refine ps_if2 (S1 := (277, [(0, .ref m0), (1, .int (nI k)), (2, .int (nI p)), (3, .int (nI (by1 f p)))], [], M1)) (S2 := (162, [(0, .ref m0), (1, .int (nI k)), (2, .int (nI p)), (3, .int (nI (by1 f p)))], [], M1)) rfl rfl rfl (fun c_159 => ?_) (fun c_159 => ?_)
                      rotate_left
                      · exact absurd ((lt_nI (p := 11) (n := by1 f p) (by decide) (Nat.lt_trans (by1_lt _ _) (by decide))).mpr (by omega)) (of_decide_eq_false c_159)
                      refine ps_st (S' := (278, [(0, .ref m0), (1, .int (nI k)), (2, .int (nI p)), (3, .int (nI (by1 f p)))], [.int (nI (by1 f p))], M1)) rfl rfl rfl ?_
                      refine ps_st (S' := (280, [(0, .ref m0), (1, .int (nI k)), (2, .int (nI p)), (3, .int (nI (by1 f p)))], [.int 15, .int (nI (by1 f p))], M1)) rfl rfl rfl ?_
                      refine ps_if2 (S1 := (299, [(0, .ref m0), (1, .int (nI k)), (2, .int (nI p)), (3, .int (nI (by1 f p)))], [], M1)) (S2 := (283, [(0, .ref m0), (1, .int (nI k)), (2, .int (nI p)), (3, .int (nI (by1 f p)))], [], M1)) rfl rfl rfl (fun c_280 => ?_) (fun c_280 => ?_)
                      rotate_left
                      · exact absurd (show ¬ ((nI (by1 f p)) = 15) from fun h9 => absurd ((eq_nI (p := by1 f p) (n := 15) (Nat.lt_trans (by1_lt _ _) (by decide)) (by decide)).mp h9) (by omega)) (of_decide_eq_false c_280)
                      refine ps_st (S' := (300, [(0, .ref m0), (1, .int (nI k)), (2, .int (nI p)), (3, .int (nI (by1 f p)))], [.int (nI (by1 f p))], M1)) rfl rfl rfl ?_
                      refine ps_st (S' := (302, [(0, .ref m0), (1, .int (nI k)), (2, .int (nI p)), (3, .int (nI (by1 f p)))], [.int 16, .int (nI (by1 f p))], M1)) rfl rfl rfl ?_
                      refine ps_if2 (S1 := (330, [(0, .ref m0), (1, .int (nI k)), (2, .int (nI p)), (3, .int (nI (by1 f p)))], [], M1)) (S2 := (305, [(0, .ref m0), (1, .int (nI k)), (2, .int (nI p)), (3, .int (nI (by1 f p)))], [], M1)) rfl rfl rfl (fun c_302 => ?_) (fun c_302 => ?_)
                      rotate_left
                      · exact absurd (show ¬ ((nI (by1 f p)) = 16) from fun h9 => absurd ((eq_nI (p := by1 f p) (n := 16) (Nat.lt_trans (by1_lt _ _) (by decide)) (by decide)).mp h9) (by omega)) (of_decide_eq_false c_302)
                      refine ps_st (S' := (331, [(0, .ref m0), (1, .int (nI k)), (2, .int (nI p)), (3, .int (nI (by1 f p)))], [.int (nI (by1 f p))], M1)) rfl rfl rfl ?_
                      refine ps_st (S' := (333, [(0, .ref m0), (1, .int (nI k)), (2, .int (nI p)), (3, .int (nI (by1 f p)))], [.int 17, .int (nI (by1 f p))], M1)) rfl rfl rfl ?_
                      refine ps_if2 (S1 := (342, [(0, .ref m0), (1, .int (nI k)), (2, .int (nI p)), (3, .int (nI (by1 f p)))], [], M1)) (S2 := (336, [(0, .ref m0), (1, .int (nI k)), (2, .int (nI p)), (3, .int (nI (by1 f p)))], [], M1)) rfl rfl rfl (fun c_333 => ?_) (fun c_333 => ?_)
                      · exact absurd (of_decide_eq_true c_333) (show ¬ ((nI (by1 f p)) = 17) from fun h9 => absurd ((eq_nI (p := by1 f p) (n := 17) (Nat.lt_trans (by1_lt _ _) (by decide)) (by decide)).mp h9) (by omega))
                      refine ps_st (S' := (337, [(0, .ref m0), (1, .int (nI k)), (2, .int (nI p)), (3, .int (nI (by1 f p)))], [.int (nI (by1 f p))], M1)) rfl rfl rfl ?_
                      refine ps_st (S' := (339, [(0, .ref m0), (1, .int (nI k)), (2, .int (nI p)), (3, .int (nI (by1 f p)))], [.int 18, .int (nI (by1 f p))], M1)) rfl rfl rfl ?_
                      refine ps_if2 (S1 := (420, [(0, .ref m0), (1, .int (nI k))], [], M1)) (S2 := (342, [(0, .ref m0), (1, .int (nI k)), (2, .int (nI p)), (3, .int (nI (by1 f p)))], [], M1)) rfl rfl rfl (fun c_339 => ?_) (fun c_339 => ?_)
                      rotate_left
                      · exact absurd (show ¬ ((nI (by1 f p)) = 18) from fun h9 => absurd ((eq_nI (p := by1 f p) (n := 18) (Nat.lt_trans (by1_lt _ _) (by decide)) (by decide)).mp h9) (by omega)) (of_decide_eq_false c_339)
                      refine ps_st (S' := (423, [(1, .int ((nI k) + 1)), (0, .ref m0)], [], M1)) rfl rfl rfl ?_
                      rw [nI_add1 (p := k) (k := 1) (x := 1) rfl (by omega)]
                      show pl _ _ _ (_, [(1, .int (nI (k + 1))), (0, .ref m0)], [], M1) _
                      refine ps_st (S' := (2, [(0, .ref m0), (1, .int (nI (k + 1)))], [], M1)) rfl rfl rfl ?_
                      exact ih (k + 1) M1 I1 R1 hR1 hEI1 hER1 hl51 hl52 hl53 hl9 hF1 hY1 hP1 (by omega) (by
                          have hb : brkN f n E mj k = 0 := by
                            have e12 := nwt_9 (f := f) (n := n) (E := E) (k := k)
                            have e13 := mrf_9 (f := f) (n := n) (E := E) (k := k)
                            unfold brkN
                            first | ((repeat first | rw [if_pos (by omega)] | rw [if_neg (by omega)]) <;> first | rfl | omega) | ((repeat' split) <;> first | rfl | (exfalso; omega) | omega)
                          rw [← hs, chkP_st (k := k) (by omega), if_neg (by omega), if_pos hb])
                    · have c_139 : ¬ (¬ (nI (mthN (tX f n E (se f E k)))) = 0) := of_decide_eq_false c_139
                      have n_139 : mthN (tX f n E (se f E k)) = 0 := (eq_nI (p := mthN (tX f n E (se f E k))) (n := 0) (Nat.lt_trans (le1_mth _) (by decide)) (by decide)).mp (Decidable.not_not.mp c_139)
                      refine ps_st (S' := (143, [(0, .ref m0), (2, .int (nI p))], [.ref m0], M1)) rfl rfl rfl ?_
                      refine ps_st (S' := (145, [(0, .ref m0), (2, .int (nI p))], [.int 11, .ref m0], M1)) rfl rfl rfl ?_
                      refine ps_st (S' := (146, [(0, .ref m0), (2, .int (nI p))], [.int (nI p), .int 11, .ref m0], M1)) rfl rfl rfl ?_
                      refine pl_call (a := [.ref m0, .int 11, .int (nI p)]) (rest := []) rfl rfl rfl (rd_wrong (x1 := 11) (x2 := (nI p)) hR1) (fun v362 M363 q364 => ?_)
                      obtain ⟨I365, R366, rfl, hR367, hI368, hX369, hi370, hi371⟩ := q364
                      have hi372 := (hI368 51 (by decide)).trans hl51
                      have hi373 := (hI368 52 (by decide)).trans hl52
                      have hi374 := (hI368 53 (by decide)).trans hl53
                      have hi375 := (hI368 9 (by decide)).trans hl9
                      have hF_376 := hF1.mono (cIx hI368 (by decide)) (cRx hX369 (by decide))
                      have hY_377 := hY1.mono (cIx hI368 (by decide)) (cRx hX369 (by decide))
                      have hP_378 := hP1.mono (cIx hI368 (by decide)) (cRx hX369 (by decide))
                      have hEI379 := hEI1.tr hI368 (by decide)
                      have hER380 := hER1.tr hX369 (by decide)
                      show pl _ _ _ (149, [(0, .ref m0), (2, .int (nI p))], [.int 0], M363) _
                      exact ps_ret rfl rfl (Or.inr ⟨(11, p), I365, R366, by
                          have hb : brkN f n E mj k = 11 := by
                            have e12 := nwt_9 (f := f) (n := n) (E := E) (k := k)
                            have e13 := mrf_9 (f := f) (n := n) (E := E) (k := k)
                            unfold brkN
                            first | ((repeat first | rw [if_pos (by omega)] | rw [if_neg (by omega)]) <;> first | rfl | omega) | ((repeat' split) <;> first | rfl | (exfalso; omega) | omega)
                          rw [← hs, chkP_st (k := k) (by omega), if_neg (by omega), if_neg (by omega), hb, htp], rfl, hR367, hEI379, hER380, hi370, hi371⟩)
            · have c_56 : ¬ (¬ (nI (by1 f p)) = 7) := of_decide_eq_false c_56
              have n_56 : by1 f p = 7 := (eq_nI (p := by1 f p) (n := 7) (Nat.lt_trans (by1_lt _ _) (by decide)) (by decide)).mp (Decidable.not_not.mp c_56)
              refine ps_st (S' := (60, [(3, .int (nI (by1 f p))), (2, .int (nI p)), (0, .ref m0), (1, .int (nI k))], [.ref m0], M1)) rfl rfl rfl ?_
              refine ps_st (S' := (61, [(3, .int (nI (by1 f p))), (2, .int (nI p)), (0, .ref m0), (1, .int (nI k))], [.ref m0, .ref m0], M1)) rfl rfl rfl ?_
              refine ps_st (S' := (62, [(3, .int (nI (by1 f p))), (2, .int (nI p)), (0, .ref m0), (1, .int (nI k))], [.ref m0, .ref m0, .ref m0], M1)) rfl rfl rfl ?_
              refine ps_st (S' := (63, [(3, .int (nI (by1 f p))), (2, .int (nI p)), (0, .ref m0), (1, .int (nI k))], [.int (nI k), .ref m0, .ref m0, .ref m0], M1)) rfl rfl rfl ?_
              refine ps_st (S' := (64, [(3, .int (nI (by1 f p))), (2, .int (nI p)), (0, .ref m0), (1, .int (nI k))], [.int 1, .int (nI k), .ref m0, .ref m0, .ref m0], M1)) rfl rfl rfl ?_
              refine pl_call (a := [.ref m0, .int (nI k), .int 1]) (rest := [.ref m0, .ref m0]) rfl rfl rfl (rd_idx1 (n := n) (f := f) (tx := tx) (cN := cN) (A := A) (N := N) (mj := mj) (E := E) (k := k) hR1 hl51 hl52 hl53 hF1 hY1 hP1 (hEP) (hN) (hmj) (by omega)) (fun v381 M382 q383 => ?_)
              obtain ⟨rfl, rfl⟩ := q383
              show pl _ _ _ (67, [(3, .int (nI (by1 f p))), (2, .int (nI p)), (0, .ref m0), (1, .int (nI k))], [.int (nI (fi f E k)), .ref m0, .ref m0], M1) _
              have hix_64 := fi_lt f E k
              refine pl_call (a := [.ref m0, .int (nI (fi f E k))]) (rest := [.ref m0]) rfl rfl rfl (rd_symOf (n := n) (f := f) (tx := tx) (cN := cN) (A := A) (N := N) (mj := mj) (E := E) (k := (fi f E k)) hR1 hl51 hl52 hl53 hF1 hY1 hP1 (hEP) (hN) (hmj) (by omega)) (fun v384 M385 q386 => ?_)
              obtain ⟨s387, q67_s, rfl, rfl⟩ := q386
              show pl _ _ _ (70, [(3, .int (nI (by1 f p))), (2, .int (nI p)), (0, .ref m0), (1, .int (nI k))], [.int (nI s387), .ref m0], M1) _
              have hsl_67 := q67_s.1
              have htl_67 := hY1.1.2.2.1
              refine pl_call (a := [.ref m0, .int (nI s387)]) (rest := []) rfl rfl rfl (rd_classText (tx := tx) (cN := cN) (A := A) (s := s387) (l := (tX f n E (fi f E k))) hR1 hY1 (q67_s)) (fun v388 M389 q390 => ?_)
              obtain ⟨rfl, rfl⟩ := q390
              show pl _ _ _ (73, [(3, .int (nI (by1 f p))), (2, .int (nI p)), (0, .ref m0), (1, .int (nI k))], [.int (nI (clsN (tX f n E (fi f E k))))], M1) _
              refine ps_if (S1 := (84, [(0, .ref m0), (1, .int (nI k)), (2, .int (nI p)), (3, .int (nI (by1 f p)))], [], M1)) (S2 := (76, [(3, .int (nI (by1 f p))), (2, .int (nI p)), (0, .ref m0), (1, .int (nI k))], [], M1)) rfl rfl rfl (fun c_73 => ?_) (fun c_73 => ?_)
              · have c_73 : ¬ (nI (clsN (tX f n E (fi f E k)))) = 0 := of_decide_eq_true c_73
                have n_73 : ¬ (clsN (tX f n E (fi f E k)) = 0) := fun h9 => c_73 ((eq_nI (p := clsN (tX f n E (fi f E k))) (n := 0) (Nat.lt_trans (le1_cls _) (by decide)) (by decide)).mpr h9)
                refine ps_st (S' := (85, [(0, .ref m0), (1, .int (nI k)), (2, .int (nI p)), (3, .int (nI (by1 f p)))], [.int (nI (by1 f p))], M1)) rfl rfl rfl ?_
                refine ps_st (S' := (87, [(0, .ref m0), (1, .int (nI k)), (2, .int (nI p)), (3, .int (nI (by1 f p)))], [.int 12, .int (nI (by1 f p))], M1)) rfl rfl rfl ?_
                refine ps_if2 (S1 := (150, [(0, .ref m0), (1, .int (nI k)), (2, .int (nI p)), (3, .int (nI (by1 f p)))], [], M1)) (S2 := (90, [(0, .ref m0), (1, .int (nI k)), (2, .int (nI p)), (3, .int (nI (by1 f p)))], [], M1)) rfl rfl rfl (fun c_87 => ?_) (fun c_87 => ?_)
                rotate_left
                · exact absurd (show ¬ ((nI (by1 f p)) = 12) from fun h9 => absurd ((eq_nI (p := by1 f p) (n := 12) (Nat.lt_trans (by1_lt _ _) (by decide)) (by decide)).mp h9) (by omega)) (of_decide_eq_false c_87)
                refine ps_st (S' := (151, [(0, .ref m0), (1, .int (nI k)), (2, .int (nI p)), (3, .int (nI (by1 f p)))], [.int (nI (by1 f p))], M1)) rfl rfl rfl ?_
                refine ps_st (S' := (153, [(0, .ref m0), (1, .int (nI k)), (2, .int (nI p)), (3, .int (nI (by1 f p)))], [.int 9, .int (nI (by1 f p))], M1)) rfl rfl rfl ?_
                refine ps_if2 (S1 := (277, [(0, .ref m0), (1, .int (nI k)), (2, .int (nI p)), (3, .int (nI (by1 f p)))], [], M1)) (S2 := (156, [(0, .ref m0), (1, .int (nI k)), (2, .int (nI p)), (3, .int (nI (by1 f p)))], [], M1)) rfl rfl rfl (fun c_153 => ?_) (fun c_153 => ?_)
                rotate_left
                · exact absurd ((lt_nI (p := by1 f p) (n := 9) (Nat.lt_trans (by1_lt _ _) (by decide)) (by decide)).mpr (by omega)) (of_decide_eq_false c_153)
                refine ps_st (S' := (278, [(0, .ref m0), (1, .int (nI k)), (2, .int (nI p)), (3, .int (nI (by1 f p)))], [.int (nI (by1 f p))], M1)) rfl rfl rfl ?_
                refine ps_st (S' := (280, [(0, .ref m0), (1, .int (nI k)), (2, .int (nI p)), (3, .int (nI (by1 f p)))], [.int 15, .int (nI (by1 f p))], M1)) rfl rfl rfl ?_
                refine ps_if2 (S1 := (299, [(0, .ref m0), (1, .int (nI k)), (2, .int (nI p)), (3, .int (nI (by1 f p)))], [], M1)) (S2 := (283, [(0, .ref m0), (1, .int (nI k)), (2, .int (nI p)), (3, .int (nI (by1 f p)))], [], M1)) rfl rfl rfl (fun c_280 => ?_) (fun c_280 => ?_)
                rotate_left
                · exact absurd (show ¬ ((nI (by1 f p)) = 15) from fun h9 => absurd ((eq_nI (p := by1 f p) (n := 15) (Nat.lt_trans (by1_lt _ _) (by decide)) (by decide)).mp h9) (by omega)) (of_decide_eq_false c_280)
                refine ps_st (S' := (300, [(0, .ref m0), (1, .int (nI k)), (2, .int (nI p)), (3, .int (nI (by1 f p)))], [.int (nI (by1 f p))], M1)) rfl rfl rfl ?_
                refine ps_st (S' := (302, [(0, .ref m0), (1, .int (nI k)), (2, .int (nI p)), (3, .int (nI (by1 f p)))], [.int 16, .int (nI (by1 f p))], M1)) rfl rfl rfl ?_
                refine ps_if2 (S1 := (330, [(0, .ref m0), (1, .int (nI k)), (2, .int (nI p)), (3, .int (nI (by1 f p)))], [], M1)) (S2 := (305, [(0, .ref m0), (1, .int (nI k)), (2, .int (nI p)), (3, .int (nI (by1 f p)))], [], M1)) rfl rfl rfl (fun c_302 => ?_) (fun c_302 => ?_)
                rotate_left
                · exact absurd (show ¬ ((nI (by1 f p)) = 16) from fun h9 => absurd ((eq_nI (p := by1 f p) (n := 16) (Nat.lt_trans (by1_lt _ _) (by decide)) (by decide)).mp h9) (by omega)) (of_decide_eq_false c_302)
                refine ps_st (S' := (331, [(0, .ref m0), (1, .int (nI k)), (2, .int (nI p)), (3, .int (nI (by1 f p)))], [.int (nI (by1 f p))], M1)) rfl rfl rfl ?_
                refine ps_st (S' := (333, [(0, .ref m0), (1, .int (nI k)), (2, .int (nI p)), (3, .int (nI (by1 f p)))], [.int 17, .int (nI (by1 f p))], M1)) rfl rfl rfl ?_
                refine ps_if2 (S1 := (342, [(0, .ref m0), (1, .int (nI k)), (2, .int (nI p)), (3, .int (nI (by1 f p)))], [], M1)) (S2 := (336, [(0, .ref m0), (1, .int (nI k)), (2, .int (nI p)), (3, .int (nI (by1 f p)))], [], M1)) rfl rfl rfl (fun c_333 => ?_) (fun c_333 => ?_)
                · exact absurd (of_decide_eq_true c_333) (show ¬ ((nI (by1 f p)) = 17) from fun h9 => absurd ((eq_nI (p := by1 f p) (n := 17) (Nat.lt_trans (by1_lt _ _) (by decide)) (by decide)).mp h9) (by omega))
                refine ps_st (S' := (337, [(0, .ref m0), (1, .int (nI k)), (2, .int (nI p)), (3, .int (nI (by1 f p)))], [.int (nI (by1 f p))], M1)) rfl rfl rfl ?_
                refine ps_st (S' := (339, [(0, .ref m0), (1, .int (nI k)), (2, .int (nI p)), (3, .int (nI (by1 f p)))], [.int 18, .int (nI (by1 f p))], M1)) rfl rfl rfl ?_
                refine ps_if2 (S1 := (420, [(0, .ref m0), (1, .int (nI k))], [], M1)) (S2 := (342, [(0, .ref m0), (1, .int (nI k)), (2, .int (nI p)), (3, .int (nI (by1 f p)))], [], M1)) rfl rfl rfl (fun c_339 => ?_) (fun c_339 => ?_)
                rotate_left
                · exact absurd (show ¬ ((nI (by1 f p)) = 18) from fun h9 => absurd ((eq_nI (p := by1 f p) (n := 18) (Nat.lt_trans (by1_lt _ _) (by decide)) (by decide)).mp h9) (by omega)) (of_decide_eq_false c_339)
                refine ps_st (S' := (423, [(1, .int ((nI k) + 1)), (0, .ref m0)], [], M1)) rfl rfl rfl ?_
                rw [nI_add1 (p := k) (k := 1) (x := 1) rfl (by omega)]
                show pl _ _ _ (_, [(1, .int (nI (k + 1))), (0, .ref m0)], [], M1) _
                refine ps_st (S' := (2, [(0, .ref m0), (1, .int (nI (k + 1)))], [], M1)) rfl rfl rfl ?_
                exact ih (k + 1) M1 I1 R1 hR1 hEI1 hER1 hl51 hl52 hl53 hl9 hF1 hY1 hP1 (by omega) (by
                    have hb : brkN f n E mj k = 0 := by
                      have e12 := nwt_9 (f := f) (n := n) (E := E) (k := k)
                      have e13 := mrf_9 (f := f) (n := n) (E := E) (k := k)
                      unfold brkN
                      first | ((repeat first | rw [if_pos (by omega)] | rw [if_neg (by omega)]) <;> first | rfl | omega) | ((repeat' split) <;> first | rfl | (exfalso; omega) | omega)
                    rw [← hs, chkP_st (k := k) (by omega), if_neg (by omega), if_pos hb])
              · have c_73 : ¬ (¬ (nI (clsN (tX f n E (fi f E k)))) = 0) := of_decide_eq_false c_73
                have n_73 : clsN (tX f n E (fi f E k)) = 0 := (eq_nI (p := clsN (tX f n E (fi f E k))) (n := 0) (Nat.lt_trans (le1_cls _) (by decide)) (by decide)).mp (Decidable.not_not.mp c_73)
                refine ps_st (S' := (77, [(3, .int (nI (by1 f p))), (2, .int (nI p)), (0, .ref m0), (1, .int (nI k))], [.ref m0], M1)) rfl rfl rfl ?_
                refine ps_st (S' := (79, [(3, .int (nI (by1 f p))), (2, .int (nI p)), (0, .ref m0), (1, .int (nI k))], [.int 10, .ref m0], M1)) rfl rfl rfl ?_
                refine ps_st (S' := (80, [(3, .int (nI (by1 f p))), (2, .int (nI p)), (0, .ref m0), (1, .int (nI k))], [.int (nI p), .int 10, .ref m0], M1)) rfl rfl rfl ?_
                refine pl_call (a := [.ref m0, .int 10, .int (nI p)]) (rest := []) rfl rfl rfl (rd_wrong (x1 := 10) (x2 := (nI p)) hR1) (fun v391 M392 q393 => ?_)
                obtain ⟨I394, R395, rfl, hR396, hI397, hX398, hi399, hi400⟩ := q393
                have hi401 := (hI397 51 (by decide)).trans hl51
                have hi402 := (hI397 52 (by decide)).trans hl52
                have hi403 := (hI397 53 (by decide)).trans hl53
                have hi404 := (hI397 9 (by decide)).trans hl9
                have hF_405 := hF1.mono (cIx hI397 (by decide)) (cRx hX398 (by decide))
                have hY_406 := hY1.mono (cIx hI397 (by decide)) (cRx hX398 (by decide))
                have hP_407 := hP1.mono (cIx hI397 (by decide)) (cRx hX398 (by decide))
                have hEI408 := hEI1.tr hI397 (by decide)
                have hER409 := hER1.tr hX398 (by decide)
                show pl _ _ _ (83, [(3, .int (nI (by1 f p))), (2, .int (nI p)), (0, .ref m0), (1, .int (nI k))], [.int 0], M392) _
                exact ps_ret rfl rfl (Or.inr ⟨(10, p), I394, R395, by
                    have hb : brkN f n E mj k = 10 := by
                      have e12 := nwt_9 (f := f) (n := n) (E := E) (k := k)
                      have e13 := mrf_9 (f := f) (n := n) (E := E) (k := k)
                      unfold brkN
                      first | ((repeat first | rw [if_pos (by omega)] | rw [if_neg (by omega)]) <;> first | rfl | omega) | ((repeat' split) <;> first | rfl | (exfalso; omega) | omega)
                    rw [← hs, chkP_st (k := k) (by omega), if_neg (by omega), if_neg (by omega), hb, htp], rfl, hR396, hEI408, hER409, hi399, hi400⟩)
          · have c_42 : ¬ (¬ (nI (lnkN f E k)) = 0) := of_decide_eq_false c_42
            have n_42 : lnkN f E k = 0 := (eq_nI (p := lnkN f E k) (n := 0) (Nat.lt_trans (le1_lnk _ _ _) (by decide)) (by decide)).mp (Decidable.not_not.mp c_42)
            refine ps_st (S' := (46, [(3, .int (nI (by1 f p))), (2, .int (nI p)), (0, .ref m0), (1, .int (nI k))], [.ref m0], M1)) rfl rfl rfl ?_
            refine ps_st (S' := (48, [(3, .int (nI (by1 f p))), (2, .int (nI p)), (0, .ref m0), (1, .int (nI k))], [.int 9, .ref m0], M1)) rfl rfl rfl ?_
            refine ps_st (S' := (49, [(3, .int (nI (by1 f p))), (2, .int (nI p)), (0, .ref m0), (1, .int (nI k))], [.int (nI p), .int 9, .ref m0], M1)) rfl rfl rfl ?_
            refine pl_call (a := [.ref m0, .int 9, .int (nI p)]) (rest := []) rfl rfl rfl (rd_wrong (x1 := 9) (x2 := (nI p)) hR1) (fun v410 M411 q412 => ?_)
            obtain ⟨I413, R414, rfl, hR415, hI416, hX417, hi418, hi419⟩ := q412
            have hi420 := (hI416 51 (by decide)).trans hl51
            have hi421 := (hI416 52 (by decide)).trans hl52
            have hi422 := (hI416 53 (by decide)).trans hl53
            have hi423 := (hI416 9 (by decide)).trans hl9
            have hF_424 := hF1.mono (cIx hI416 (by decide)) (cRx hX417 (by decide))
            have hY_425 := hY1.mono (cIx hI416 (by decide)) (cRx hX417 (by decide))
            have hP_426 := hP1.mono (cIx hI416 (by decide)) (cRx hX417 (by decide))
            have hEI427 := hEI1.tr hI416 (by decide)
            have hER428 := hER1.tr hX417 (by decide)
            show pl _ _ _ (52, [(3, .int (nI (by1 f p))), (2, .int (nI p)), (0, .ref m0), (1, .int (nI k))], [.int 0], M411) _
            exact ps_ret rfl rfl (Or.inr ⟨(9, p), I413, R414, by
                rw [← hs, chkP_st (k := k) (by omega), if_pos (by omega), htp], rfl, hR415, hEI427, hER428, hi418, hi419⟩)
        · have c_23 : ¬ (0 ≤ (plI (lk E k))) := of_decide_eq_false c_23
          have hk9 := plI_none (fun p hp => by have := (hEP k p hp).1; omega) (by assumption)
          have hsk := chk_skip (f := f) (n := n) (E := E) (mj := mj) (tg_none (f := f) hk9)
          refine ps_st (S' := (420, [(0, .ref m0), (1, .int (nI k))], [], M1)) rfl rfl rfl ?_
          refine ps_st (S' := (423, [(1, .int ((nI k) + 1)), (0, .ref m0)], [], M1)) rfl rfl rfl ?_
          rw [nI_add1 (p := k) (k := 1) (x := 1) rfl (by omega)]
          show pl _ _ _ (_, [(1, .int (nI (k + 1))), (0, .ref m0)], [], M1) _
          refine ps_st (S' := (2, [(0, .ref m0), (1, .int (nI (k + 1)))], [], M1)) rfl rfl rfl ?_
          exact ih (k + 1) M1 I1 R1 hR1 hEI1 hER1 hl51 hl52 hl53 hl9 hF1 hY1 hP1 (by omega) (by
              rw [← hs, chkP_st (k := k) (by omega), if_neg (by omega), if_pos (by omega)])
  refine ps_st (S' := (1, [(0, .ref m0)], [.int 1], M)) rfl rfl rfl ?_
  refine ps_st (S' := (2, [(0, .ref m0), (1, .int 1)], [], M)) rfl rfl rfl ?_
  exact (LL kf) (1) M I R hR hEI hER hi51 hi52 hi53 hi9 hF hY hP (by omega) (rfl)
