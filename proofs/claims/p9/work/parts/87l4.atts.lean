/-! a field's attributes, as the reference checks them (laid by wip/p4/e14.py) -/

theorem lt_15 : ltx 15 = ltx 0 := by decide +kernel
theorem kb_1 {mj : Nat} {l : List Nat} : kb mj 1 l 10 = if ¬ eqN l (ltx 15) = 0 then some 0 else none := by
  simp only [kb, kiN, kfN]
  simp
theorem has_9 {x w : Nat} : hasN x w = 0 ↔ aN x w = 0 := by
  unfold hasN
  split <;> omega
def FX (fl ds x : Nat) (I : rI) (R : rR) : Prop := R 27 x = some (nI fl) ∧ R 29 x = some (nI ds)
theorem FX.mono {fl ds x : Nat} {I I' : rI} {R R' : rR} (h : FX fl ds x I R) (hI : ∀ k, k ∈ ([] : List Nat) → I' k = I k) (hR : ∀ k, k ∈ [27, 29] → R' k = R k) : FX fl ds x I' R' := by
  unfold FX
  rw [hR 27 (by decide), hR 29 (by decide)]
  exact h
def MX (fl ds x : Nat) (I : rI) (R : rR) : Prop := R 34 x = some (nI fl) ∧ R 36 x = some (nI ds)
theorem MX.mono {fl ds x : Nat} {I I' : rI} {R R' : rR} (h : MX fl ds x I R) (hI : ∀ k, k ∈ ([] : List Nat) → I' k = I k) (hR : ∀ k, k ∈ [34, 36] → R' k = R k) : MX fl ds x I' R' := by
  unfold MX
  rw [hR 34 (by decide), hR 36 (by decide)]
  exact h
section FAS
variable {f : Nat → Int32} {n : Nat} {E : List (Nat × Nat)} {x c i p s : Nat} {d : List Nat}
theorem faS_28 (h : i < c) (ht : ¬ tg f E (by2 f p) = 1) : faS f n E x d (c - i) p s = some (28, p) := by
  rw [faS_st h, show nwS f E s (fkN f n E (by2 f p)) p = .inl (28, p) by unfold nwS; rw [if_pos ht]]
theorem faS_29 (h : i < c) (ht : tg f E (by2 f p) = 1) (hk : fkN f n E (by2 f p) = 1) (hs : ¬ sb s 1 = 0) : faS f n E x d (c - i) p s = some (29, p) := by
  rw [faS_st h, hk, show nwS f E s 1 p = .inl (29, p) by unfold nwS; rw [if_neg (fun h9 => h9 ht), if_neg (by decide), if_pos hs]]
theorem faS_u (h : i < c) (ht : tg f E (by2 f p) = 1) (hk : fkN f n E (by2 f p) = 0) : faS f n E x d (c - i) p s = faS f n E x d (c - (i + 1)) (p + 6 + by4 f (p + 2)) s := by
  rw [faS_st h, show nwS f E s (fkN f n E (by2 f p)) p = .inr s by unfold nwS; rw [if_neg (fun h9 => h9 ht), if_pos hk]]
  dsimp only
  rw [if_neg (fun h9 => h9.1 hk), if_neg (fun h9 => h9.1 hk)]
theorem faS_k (h : i < c) (ht : tg f E (by2 f p) = 1) (hk : fkN f n E (by2 f p) = 1) (hs : sb s 1 = 0) : faS f n E x d (c - i) p s = if ¬ s_fe f 1 (p + 6) (p + 6 + by4 f (p + 2)) = some (p + 6 + by4 f (p + 2)) then some (30, p) else if ¬ hasN x 8 = 0 ∧ ¬ ctS d = some (tg f E (by2 f (p + 6))) then some (31, p) else faS f n E x d (c - (i + 1)) (p + 6 + by4 f (p + 2)) (so s 1) := by
  rw [faS_st h, hk, show nwS f E s 1 p = .inr (so s 1) by unfold nwS; rw [if_neg (fun h9 => h9 ht), if_neg (by decide), if_neg (fun h9 => h9 hs)]]
  simp only [Nat.one_ne_zero, not_false_eq_true, true_and]
end FAS
set_option maxHeartbeats 4000000 in
theorem rd_checkAttributes1 {g : xe_G} {m0 : Nat} {q : Nat → Nat} {z : Nat × Nat} {I : rI} {R : rR} {M : mi_H} {n : Nat} {f : Nat → Int32} {tx : List (List Nat)} {cN : Nat} {A : Nat → Nat} {N mj : Nat} {E : List (Nat × Nat)} {p1 e x fl ds : Nat} {l : List Nat} (hR : RS g m0 q z I R M) (hi51 : I 51 = some 0) (hi52 : I 52 = some (nI N)) (hi53 : I 53 = some (nI mj)) (hF : FK n f I R) (hY : SYT tx cN A I R) (hP : RPV f n E tx N I R) (hK : KX I R) (hX : FX fl ds x I R) (hEP : EP f n E) (hN : N < 65536) (hmj : mj < 65536) (hin : p1 + 2 ≤ e ∧ e ≤ n) (hat : s_atE f e (by2 f p1) (p1 + 2) = some e) (hx : x < 8300) (hdt : ds < tx.length ∧ tx.getD ds [] = l) (hfd : ¬ fldN l = 0) (hf6 : fl < 65536) : pt (mT g) 187 [.ref m0, .int (nI p1), .int 1, .int (nI x)] M (fun v M' => (∃ (e9 : Nat × Nat) (I' : rI) (R' : rR), (faS f n E fl l (by2 f p1) (p1 + 2) 0 = some e9) ∧ v = some (.int (-1)) ∧ RS g m0 q z I' R' M' ∧ eqI [47, 48] I I' ∧ eqR [30, 31] R R' ∧ I' 47 = some (nI e9.1) ∧ I' 48 = some (nI e9.2)) ∨ (∃  (I' : rI) (R' : rR), (faS f n E fl l (by2 f p1) (p1 + 2) 0 = none) ∧ v = some (.int (nI e)) ∧ RS g m0 q z I' R' M' ∧ eqI [47, 48] I I' ∧ eqR [30, 31] R R')) := by
  refine pt_in (b := mb_187 g) rfl (fun kf => ?_)
  show pl (mT g) kf (mb_187 g).2 (0, [(0, .ref m0), (1, .int (nI p1)), (2, .int 1), (3, .int (nI x))], [], M) _
  have hEI : eqI [47, 48] I I := eqI.rf
  have hER : eqR [30, 31] R R := eqR.rf
  have hn := hF.1
  have LL : ∀ (kf : Nat), (∀ (i p s2 s3 : Nat) (M1 : mi_H) (I1 : rI) (R1 : rR), (RS g m0 q z I1 R1 M1) → (eqI [47, 48] I I1) → (eqR [30, 31] R R1) → (I1 51 = some 0) → (I1 52 = some (nI N)) → (I1 53 = some (nI mj)) → (FK n f I1 R1) → (SYT tx cN A I1 R1) → (RPV f n E tx N I1 R1) → (KX I1 R1) → (FX fl ds x I1 R1) → (i ≤ by2 f p1) → (s3 < 2048) → (sb s3 0 = sb s2 1) → (s_atE f e (by2 f p1 - i) p = some e) → (faS f n E fl l (by2 f p1 - i) p s2 = faS f n E fl l (by2 f p1) (p1 + 2) 0) →  pl (mT g) kf (mb_187 g).2 (18, [(0, .ref m0), (2, .int 1), (3, .int (nI x)), (4, .int (nI (by2 f p1))), (5, .int (nI p)), (6, .int (nI s3)), (7, .int (nI i))], [], M1) (fun v M' => (∃ (e9 : Nat × Nat) (I' : rI) (R' : rR), (faS f n E fl l (by2 f p1) (p1 + 2) 0 = some e9) ∧ v = some (.int (-1)) ∧ RS g m0 q z I' R' M' ∧ eqI [47, 48] I I' ∧ eqR [30, 31] R R' ∧ I' 47 = some (nI e9.1) ∧ I' 48 = some (nI e9.2)) ∨ (∃  (I' : rI) (R' : rR), (faS f n E fl l (by2 f p1) (p1 + 2) 0 = none) ∧ v = some (.int (nI e)) ∧ RS g m0 q z I' R' M' ∧ eqI [47, 48] I I' ∧ eqR [30, 31] R R'))) ∧ (∀ (i p s2 s3 k t : Nat) (M1 : mi_H) (I1 : rI) (R1 : rR), (RS g m0 q z I1 R1 M1) → (eqI [47, 48] I I1) → (eqR [30, 31] R R1) → (I1 51 = some 0) → (I1 52 = some (nI N)) → (I1 53 = some (nI mj)) → (FK n f I1 R1) → (SYT tx cN A I1 R1) → (RPV f n E tx N I1 R1) → (KX I1 R1) → (FX fl ds x I1 R1) → (i < by2 f p1) → (s3 < 2048) → (sb s3 0 = sb s2 1) → (s_atE f e (by2 f p1 - i) p = some e) → (faS f n E fl l (by2 f p1 - i) p s2 = faS f n E fl l (by2 f p1) (p1 + 2) 0) → (k ≤ 10) → (tg f E (by2 f p) = 1) → (t < tx.length ∧ tx.getD t [] = tX f n E (by2 f p)) →  pl (mT g) kf (mb_187 g).2 (79, [(0, .ref m0), (2, .int 1), (3, .int (nI x)), (4, .int (nI (by2 f p1))), (5, .int (nI p)), (6, .int (nI s3)), (7, .int (nI i)), (8, .int (nI (by4 f (p + 2)))), (9, .int (nI t)), (10, .int (gI (kb mj 1 (tX f n E (by2 f p)) k))), (11, .int (nI k))], [], M1) (fun v M' => (∃ (e9 : Nat × Nat) (I' : rI) (R' : rR), (faS f n E fl l (by2 f p1) (p1 + 2) 0 = some e9) ∧ v = some (.int (-1)) ∧ RS g m0 q z I' R' M' ∧ eqI [47, 48] I I' ∧ eqR [30, 31] R R' ∧ I' 47 = some (nI e9.1) ∧ I' 48 = some (nI e9.2)) ∨ (∃  (I' : rI) (R' : rR), (faS f n E fl l (by2 f p1) (p1 + 2) 0 = none) ∧ v = some (.int (nI e)) ∧ RS g m0 q z I' R' M' ∧ eqI [47, 48] I I' ∧ eqR [30, 31] R R'))) := by
    intro kf
    induction kf with
    | zero => exact ⟨by intros; exact pl_0, by intros; exact pl_0⟩
    | succ kf ih =>
      refine ⟨?_, ?_⟩
      · skip
        intro i p s2 s3 M1 I1 R1 hR1 hEI1 hER1 hl51 hl52 hl53 hF1 hY1 hP1 hK1 hX1 hi hl hb ha hs9
        have hn := hF1.1
        have hu9 := by2_lt f p1
        have htl := hY1.1.2.2.1
        refine ps_st1 (S' := (20, [(0, .ref m0), (2, .int 1), (3, .int (nI x)), (4, .int (nI (by2 f p1))), (5, .int (nI p)), (6, .int (nI s3)), (7, .int (nI i))], [.int (nI i)], M1)) rfl rfl rfl ?_
        refine ps_st (S' := (22, [(0, .ref m0), (2, .int 1), (3, .int (nI x)), (4, .int (nI (by2 f p1))), (5, .int (nI p)), (6, .int (nI s3)), (7, .int (nI i))], [.int (nI (by2 f p1)), .int (nI i)], M1)) rfl rfl rfl ?_
        refine ps_if2 (S1 := (284, [(0, .ref m0), (2, .int 1), (3, .int (nI x)), (4, .int (nI (by2 f p1))), (5, .int (nI p)), (6, .int (nI s3)), (7, .int (nI i))], [], M1)) (S2 := (25, [(0, .ref m0), (2, .int 1), (3, .int (nI x)), (4, .int (nI (by2 f p1))), (5, .int (nI p)), (6, .int (nI s3)), (7, .int (nI i))], [], M1)) rfl rfl rfl (fun c_22 => ?_) (fun c_22 => ?_)
        · have c_22 : (nI (by2 f p1)) ≤ (nI i) := of_decide_eq_true c_22
          have n_22 : by2 f p1 ≤ i := (le_nI (p := by2 f p1) (n := i) (Nat.lt_trans (by2_lt _ _) (by decide)) (by omega)).mp c_22
          refine ps_st (S' := (286, [(0, .ref m0), (2, .int 1), (3, .int (nI x)), (4, .int (nI (by2 f p1))), (5, .int (nI p)), (6, .int (nI s3)), (7, .int (nI i))], [.int (nI p)], M1)) rfl rfl rfl ?_
          exact ps_reti rfl (Or.inr ⟨I1, R1, by rw [← hs9, show by2 f p1 - i = 0 by omega]; rfl, by rw [show e = p by (rw [show by2 f p1 - i = 0 by omega] at ha; exact (Option.some.inj ha).symm)], hR1, hEI1, hER1⟩)
        · have c_22 : ¬ ((nI (by2 f p1)) ≤ (nI i)) := of_decide_eq_false c_22
          have n_22 : ¬ (by2 f p1 ≤ i) := fun h9 => c_22 ((le_nI (p := by2 f p1) (n := i) (Nat.lt_trans (by2_lt _ _) (by decide)) (by omega)).mpr h9)
          obtain ⟨hq5, hq6, hq7⟩ := s_atE_in (i := i) (p := p) ha (by omega)
          refine ps_st (S' := (26, [(0, .ref m0), (2, .int 1), (3, .int (nI x)), (4, .int (nI (by2 f p1))), (5, .int (nI p)), (6, .int (nI s3)), (7, .int (nI i))], [.ref m0], M1)) rfl rfl rfl ?_
          refine ps_st (S' := (28, [(0, .ref m0), (2, .int 1), (3, .int (nI x)), (4, .int (nI (by2 f p1))), (5, .int (nI p)), (6, .int (nI s3)), (7, .int (nI i))], [.int (nI p), .ref m0], M1)) rfl rfl rfl ?_
          refine ps_st (S' := (29, [(0, .ref m0), (2, .int 1), (3, .int (nI x)), (4, .int (nI (by2 f p1))), (5, .int (nI p)), (6, .int (nI s3)), (7, .int (nI i))], [.int 2, .int (nI p), .ref m0], M1)) rfl rfl rfl ?_
          refine ps_st (S' := (30, [(0, .ref m0), (2, .int 1), (3, .int (nI x)), (4, .int (nI (by2 f p1))), (5, .int (nI p)), (6, .int (nI s3)), (7, .int (nI i))], [.int ((nI p) + 2), .ref m0], M1)) rfl rfl rfl ?_
          rw [nI_add1 (p := p) (k := 2) (x := 2) rfl (by omega)]
          show pl _ _ _ (_, [(0, .ref m0), (2, .int 1), (3, .int (nI x)), (4, .int (nI (by2 f p1))), (5, .int (nI p)), (6, .int (nI s3)), (7, .int (nI i))], [.int (nI (p + 2)), .ref m0], M1) _
          refine pl_call (a := [.ref m0, .int (nI (p + 2))]) (rest := []) rfl rfl rfl (rd_u4 (n := n) (f := f) (p := (p + 2)) hR1 hF1 (by omega)) (fun v1 M2 q3 => ?_)
          obtain ⟨rfl, rfl⟩ := q3
          show pl _ _ _ (33, [(0, .ref m0), (2, .int 1), (3, .int (nI x)), (4, .int (nI (by2 f p1))), (5, .int (nI p)), (6, .int (nI s3)), (7, .int (nI i))], [.long (nL (by4 f (p + 2)))], M1) _
          have hu_30 := by4_lt f (p + 2)
          refine ps_st (S' := (34, [(0, .ref m0), (2, .int 1), (3, .int (nI x)), (4, .int (nI (by2 f p1))), (5, .int (nI p)), (6, .int (nI s3)), (7, .int (nI i))], [.int (Int64.toInt32 (nL (by4 f (p + 2))))], M1)) rfl rfl rfl ?_
          rw [l2i_nL (p := by4 f (p + 2)) (by omega)]
          show pl _ _ _ (_, [(0, .ref m0), (2, .int 1), (3, .int (nI x)), (4, .int (nI (by2 f p1))), (5, .int (nI p)), (6, .int (nI s3)), (7, .int (nI i))], [.int (nI (by4 f (p + 2)))], M1) _
          refine ps_st (S' := (36, [(8, .int (nI (by4 f (p + 2)))), (0, .ref m0), (2, .int 1), (3, .int (nI x)), (4, .int (nI (by2 f p1))), (5, .int (nI p)), (6, .int (nI s3)), (7, .int (nI i))], [], M1)) rfl rfl rfl ?_
          refine ps_st (S' := (37, [(8, .int (nI (by4 f (p + 2)))), (0, .ref m0), (2, .int 1), (3, .int (nI x)), (4, .int (nI (by2 f p1))), (5, .int (nI p)), (6, .int (nI s3)), (7, .int (nI i))], [.ref m0], M1)) rfl rfl rfl ?_
          refine ps_st (S' := (38, [(8, .int (nI (by4 f (p + 2)))), (0, .ref m0), (2, .int 1), (3, .int (nI x)), (4, .int (nI (by2 f p1))), (5, .int (nI p)), (6, .int (nI s3)), (7, .int (nI i))], [.ref m0, .ref m0], M1)) rfl rfl rfl ?_
          refine ps_st (S' := (40, [(8, .int (nI (by4 f (p + 2)))), (0, .ref m0), (2, .int 1), (3, .int (nI x)), (4, .int (nI (by2 f p1))), (5, .int (nI p)), (6, .int (nI s3)), (7, .int (nI i))], [.int (nI p), .ref m0, .ref m0], M1)) rfl rfl rfl ?_
          refine pl_call (a := [.ref m0, .int (nI p)]) (rest := [.ref m0]) rfl rfl rfl (rd_u2 (n := n) (f := f) (p := p) hR1 hF1 (by omega)) (fun v4 M5 q6 => ?_)
          obtain ⟨rfl, rfl⟩ := q6
          show pl _ _ _ (43, [(8, .int (nI (by4 f (p + 2)))), (0, .ref m0), (2, .int 1), (3, .int (nI x)), (4, .int (nI (by2 f p1))), (5, .int (nI p)), (6, .int (nI s3)), (7, .int (nI i))], [.int (nI (by2 f p)), .ref m0], M1) _
          have hu_40 := by2_lt f p
          refine pl_call (a := [.ref m0, .int (nI (by2 f p))]) (rest := []) rfl rfl rfl (rd_tag (n := n) (f := f) (tx := tx) (cN := cN) (A := A) (N := N) (mj := mj) (E := E) (k := (by2 f p)) hR1 hl51 hl52 hl53 hF1 hY1 hP1 (hEP) (hN) (hmj) (by2_lt _ _)) (fun v7 M8 q9 => ?_)
          obtain ⟨rfl, rfl⟩ := q9
          show pl _ _ _ (46, [(8, .int (nI (by4 f (p + 2)))), (0, .ref m0), (2, .int 1), (3, .int (nI x)), (4, .int (nI (by2 f p1))), (5, .int (nI p)), (6, .int (nI s3)), (7, .int (nI i))], [.int (nI (tg f E (by2 f p)))], M1) _
          have htg_43 := tg_lt f E (by2 f p)
          refine ps_st (S' := (47, [(8, .int (nI (by4 f (p + 2)))), (0, .ref m0), (2, .int 1), (3, .int (nI x)), (4, .int (nI (by2 f p1))), (5, .int (nI p)), (6, .int (nI s3)), (7, .int (nI i))], [.int 1, .int (nI (tg f E (by2 f p)))], M1)) rfl rfl rfl ?_
          refine ps_if2 (S1 := (61, [(8, .int (nI (by4 f (p + 2)))), (0, .ref m0), (2, .int 1), (3, .int (nI x)), (4, .int (nI (by2 f p1))), (5, .int (nI p)), (6, .int (nI s3)), (7, .int (nI i))], [], M1)) (S2 := (50, [(8, .int (nI (by4 f (p + 2)))), (0, .ref m0), (2, .int 1), (3, .int (nI x)), (4, .int (nI (by2 f p1))), (5, .int (nI p)), (6, .int (nI s3)), (7, .int (nI i))], [], M1)) rfl rfl rfl (fun c_47 => ?_) (fun c_47 => ?_)
          · have c_47 : (nI (tg f E (by2 f p))) = 1 := of_decide_eq_true c_47
            have n_47 : tg f E (by2 f p) = 1 := (eq_nI (p := tg f E (by2 f p)) (n := 1) (Nat.lt_trans (tg_lt _ _ _) (by decide)) (by decide)).mp c_47
            refine ps_st (S' := (62, [(8, .int (nI (by4 f (p + 2)))), (0, .ref m0), (2, .int 1), (3, .int (nI x)), (4, .int (nI (by2 f p1))), (5, .int (nI p)), (6, .int (nI s3)), (7, .int (nI i))], [.ref m0], M1)) rfl rfl rfl ?_
            refine ps_st (S' := (63, [(8, .int (nI (by4 f (p + 2)))), (0, .ref m0), (2, .int 1), (3, .int (nI x)), (4, .int (nI (by2 f p1))), (5, .int (nI p)), (6, .int (nI s3)), (7, .int (nI i))], [.ref m0, .ref m0], M1)) rfl rfl rfl ?_
            refine ps_st (S' := (65, [(8, .int (nI (by4 f (p + 2)))), (0, .ref m0), (2, .int 1), (3, .int (nI x)), (4, .int (nI (by2 f p1))), (5, .int (nI p)), (6, .int (nI s3)), (7, .int (nI i))], [.int (nI p), .ref m0, .ref m0], M1)) rfl rfl rfl ?_
            refine pl_call (a := [.ref m0, .int (nI p)]) (rest := [.ref m0]) rfl rfl rfl (rd_u2 (n := n) (f := f) (p := p) hR1 hF1 (by omega)) (fun v10 M11 q12 => ?_)
            obtain ⟨rfl, rfl⟩ := q12
            show pl _ _ _ (68, [(8, .int (nI (by4 f (p + 2)))), (0, .ref m0), (2, .int 1), (3, .int (nI x)), (4, .int (nI (by2 f p1))), (5, .int (nI p)), (6, .int (nI s3)), (7, .int (nI i))], [.int (nI (by2 f p)), .ref m0], M1) _
            have hu_65 := by2_lt f p
            refine pl_call (a := [.ref m0, .int (nI (by2 f p))]) (rest := []) rfl rfl rfl (rd_symOf (n := n) (f := f) (tx := tx) (cN := cN) (A := A) (N := N) (mj := mj) (E := E) (k := (by2 f p)) hR1 hl51 hl52 hl53 hF1 hY1 hP1 (hEP) (hN) (hmj) (by omega)) (fun v13 M14 q15 => ?_)
            obtain ⟨s16, q68_s, rfl, rfl⟩ := q15
            show pl _ _ _ (71, [(8, .int (nI (by4 f (p + 2)))), (0, .ref m0), (2, .int 1), (3, .int (nI x)), (4, .int (nI (by2 f p1))), (5, .int (nI p)), (6, .int (nI s3)), (7, .int (nI i))], [.int (nI s16)], M1) _
            have hsl_68 := q68_s.1
            have htl_68 := hY1.1.2.2.1
            refine ps_st (S' := (73, [(9, .int (nI s16)), (8, .int (nI (by4 f (p + 2)))), (0, .ref m0), (2, .int 1), (3, .int (nI x)), (4, .int (nI (by2 f p1))), (5, .int (nI p)), (6, .int (nI s3)), (7, .int (nI i))], [], M1)) rfl rfl rfl ?_
            refine ps_st (S' := (74, [(9, .int (nI s16)), (8, .int (nI (by4 f (p + 2)))), (0, .ref m0), (2, .int 1), (3, .int (nI x)), (4, .int (nI (by2 f p1))), (5, .int (nI p)), (6, .int (nI s3)), (7, .int (nI i))], [.int (-1)], M1)) rfl rfl rfl ?_
            refine ps_st (S' := (76, [(10, .int (-1)), (9, .int (nI s16)), (8, .int (nI (by4 f (p + 2)))), (0, .ref m0), (2, .int 1), (3, .int (nI x)), (4, .int (nI (by2 f p1))), (5, .int (nI p)), (6, .int (nI s3)), (7, .int (nI i))], [], M1)) rfl rfl rfl ?_
            refine ps_st (S' := (77, [(10, .int (-1)), (9, .int (nI s16)), (8, .int (nI (by4 f (p + 2)))), (0, .ref m0), (2, .int 1), (3, .int (nI x)), (4, .int (nI (by2 f p1))), (5, .int (nI p)), (6, .int (nI s3)), (7, .int (nI i))], [.int 0], M1)) rfl rfl rfl ?_
            refine ps_st (S' := (79, [(0, .ref m0), (2, .int 1), (3, .int (nI x)), (4, .int (nI (by2 f p1))), (5, .int (nI p)), (6, .int (nI s3)), (7, .int (nI i)), (8, .int (nI (by4 f (p + 2)))), (9, .int (nI s16)), (10, .int (-1)), (11, .int 0)], [], M1)) rfl rfl rfl ?_
            exact ih.2 (i) (p) (s2) (s3) (0) (s16) M1 I1 R1 hR1 hEI1 hER1 hl51 hl52 hl53 hF1 hY1 hP1 hK1 hX1 (by omega) (hl) (hb) (ha) (hs9) (by omega) (by omega) (q68_s)
          · have c_47 : ¬ ((nI (tg f E (by2 f p))) = 1) := of_decide_eq_false c_47
            have n_47 : ¬ (tg f E (by2 f p) = 1) := fun h9 => c_47 ((eq_nI (p := tg f E (by2 f p)) (n := 1) (Nat.lt_trans (tg_lt _ _ _) (by decide)) (by decide)).mpr h9)
            refine ps_st (S' := (51, [(8, .int (nI (by4 f (p + 2)))), (0, .ref m0), (2, .int 1), (3, .int (nI x)), (4, .int (nI (by2 f p1))), (5, .int (nI p)), (6, .int (nI s3)), (7, .int (nI i))], [.ref m0], M1)) rfl rfl rfl ?_
            refine ps_st (S' := (53, [(8, .int (nI (by4 f (p + 2)))), (0, .ref m0), (2, .int 1), (3, .int (nI x)), (4, .int (nI (by2 f p1))), (5, .int (nI p)), (6, .int (nI s3)), (7, .int (nI i))], [.int 28, .ref m0], M1)) rfl rfl rfl ?_
            refine ps_st (S' := (55, [(8, .int (nI (by4 f (p + 2)))), (0, .ref m0), (2, .int 1), (3, .int (nI x)), (4, .int (nI (by2 f p1))), (5, .int (nI p)), (6, .int (nI s3)), (7, .int (nI i))], [.int (nI p), .int 28, .ref m0], M1)) rfl rfl rfl ?_
            refine pl_call (a := [.ref m0, .int 28, .int (nI p)]) (rest := []) rfl rfl rfl (rd_wrong (x1 := 28) (x2 := (nI p)) hR1) (fun v17 M18 q19 => ?_)
            obtain ⟨I20, R21, rfl, hR22, hI23, hX24, hi25, hi26⟩ := q19
            have hi27 := (hI23 51 (by decide)).trans hl51
            have hi28 := (hI23 52 (by decide)).trans hl52
            have hi29 := (hI23 53 (by decide)).trans hl53
            have hF_30 := hF1.mono (cIx hI23 (by decide)) (cRx hX24 (by decide))
            have hY_31 := hY1.mono (cIx hI23 (by decide)) (cRx hX24 (by decide))
            have hP_32 := hP1.mono (cIx hI23 (by decide)) (cRx hX24 (by decide))
            have hK_33 := hK1.mono (cIx hI23 (by decide)) (cRx hX24 (by decide))
            have hX_34 := hX1.mono (cIx hI23 (by decide)) (cRx hX24 (by decide))
            have hEI35 := hEI1.tr hI23 (by decide)
            have hER36 := hER1.tr hX24 (by decide)
            show pl _ _ _ (58, [(8, .int (nI (by4 f (p + 2)))), (0, .ref m0), (2, .int 1), (3, .int (nI x)), (4, .int (nI (by2 f p1))), (5, .int (nI p)), (6, .int (nI s3)), (7, .int (nI i))], [.int 0], M18) _
            refine ps_st (S' := (59, [(8, .int (nI (by4 f (p + 2)))), (0, .ref m0), (2, .int 1), (3, .int (nI x)), (4, .int (nI (by2 f p1))), (5, .int (nI p)), (6, .int (nI s3)), (7, .int (nI i))], [], M18)) rfl rfl rfl ?_
            refine ps_st (S' := (60, [(8, .int (nI (by4 f (p + 2)))), (0, .ref m0), (2, .int 1), (3, .int (nI x)), (4, .int (nI (by2 f p1))), (5, .int (nI p)), (6, .int (nI s3)), (7, .int (nI i))], [.int (-1)], M18)) rfl rfl rfl ?_
            exact ps_ret rfl rfl (Or.inl ⟨(28, p), I20, R21, by
                rw [← hs9, faS_28 (i := i) (p := p) (s := s2) (by omega) (by omega)], rfl, hR22, hEI35, hER36, hi25, hi26⟩)
      · skip
        intro i p s2 s3 k t M1 I1 R1 hR1 hEI1 hER1 hl51 hl52 hl53 hF1 hY1 hP1 hK1 hX1 hi0 hl hb ha hs9 hk h1 hsy
        have hn := hF1.1
        have hu9 := by2_lt f p1
        have htl := hY1.1.2.2.1
        obtain ⟨hq5, hq6, hq7⟩ := s_atE_in (i := i) (p := p) ha hi0
        refine ps_st1 (S' := (81, [(0, .ref m0), (2, .int 1), (3, .int (nI x)), (4, .int (nI (by2 f p1))), (5, .int (nI p)), (6, .int (nI s3)), (7, .int (nI i)), (8, .int (nI (by4 f (p + 2)))), (9, .int (nI t)), (10, .int (gI (kb mj 1 (tX f n E (by2 f p)) k))), (11, .int (nI k))], [.int (nI k)], M1)) rfl rfl rfl ?_
        refine ps_st (S' := (82, [(0, .ref m0), (2, .int 1), (3, .int (nI x)), (4, .int (nI (by2 f p1))), (5, .int (nI p)), (6, .int (nI s3)), (7, .int (nI i)), (8, .int (nI (by4 f (p + 2)))), (9, .int (nI t)), (10, .int (gI (kb mj 1 (tX f n E (by2 f p)) k))), (11, .int (nI k))], [.ref m0, .int (nI k)], M1)) rfl rfl rfl ?_
        refine pr_ref (j := 62) (S' := (85, [(0, .ref m0), (2, .int 1), (3, .int (nI x)), (4, .int (nI (by2 f p1))), (5, .int (nI p)), (6, .int (nI s3)), (7, .int (nI i)), (8, .int (nI (by4 f (p + 2)))), (9, .int (nI t)), (10, .int (gI (kb mj 1 (tX f n E (by2 f p)) k))), (11, .int (nI k))], [.ref (q 62), .int (nI k)], M1)) rfl hR1 rfl rfl ?_
        refine pr_knl (S' := (86, [(0, .ref m0), (2, .int 1), (3, .int (nI x)), (4, .int (nI (by2 f p1))), (5, .int (nI p)), (6, .int (nI s3)), (7, .int (nI i)), (8, .int (nI (by4 f (p + 2)))), (9, .int (nI t)), (10, .int (gI (kb mj 1 (tX f n E (by2 f p)) k))), (11, .int (nI k))], [.int (nI 10), .int (nI k)], M1)) rfl hR1 rfl ?_
        refine ps_if2 (S1 := (140, [(0, .ref m0), (2, .int 1), (3, .int (nI x)), (4, .int (nI (by2 f p1))), (5, .int (nI p)), (6, .int (nI s3)), (7, .int (nI i)), (8, .int (nI (by4 f (p + 2)))), (9, .int (nI t)), (10, .int (gI (kb mj 1 (tX f n E (by2 f p)) k))), (11, .int (nI k))], [], M1)) (S2 := (89, [(0, .ref m0), (2, .int 1), (3, .int (nI x)), (4, .int (nI (by2 f p1))), (5, .int (nI p)), (6, .int (nI s3)), (7, .int (nI i)), (8, .int (nI (by4 f (p + 2)))), (9, .int (nI t)), (10, .int (gI (kb mj 1 (tX f n E (by2 f p)) k))), (11, .int (nI k))], [], M1)) rfl rfl rfl (fun c_86 => ?_) (fun c_86 => ?_)
        · have c_86 : (nI 10) ≤ (nI k) := of_decide_eq_true c_86
          have n_86 : 10 ≤ k := (le_nI (p := 10) (n := k) (by decide) (by omega)).mp c_86
          have ek : k = 10 := by omega
          have hkk := kb_1 (mj := mj) (l := tX f n E (by2 f p))
          refine ps_st (S' := (142, [(0, .ref m0), (2, .int 1), (3, .int (nI x)), (4, .int (nI (by2 f p1))), (5, .int (nI p)), (6, .int (nI s3)), (7, .int (nI i)), (8, .int (nI (by4 f (p + 2)))), (9, .int (nI t)), (10, .int (gI (kb mj 1 (tX f n E (by2 f p)) k))), (11, .int (nI k))], [.int (gI (kb mj 1 (tX f n E (by2 f p)) k))], M1)) rfl rfl rfl ?_
          refine ps_if (S1 := (268, [(0, .ref m0), (2, .int 1), (3, .int (nI x)), (4, .int (nI (by2 f p1))), (5, .int (nI p)), (6, .int (nI s3)), (7, .int (nI i)), (8, .int (nI (by4 f (p + 2))))], [], M1)) (S2 := (145, [(0, .ref m0), (2, .int 1), (3, .int (nI x)), (4, .int (nI (by2 f p1))), (5, .int (nI p)), (6, .int (nI s3)), (7, .int (nI i)), (8, .int (nI (by4 f (p + 2)))), (9, .int (nI t)), (10, .int (gI (kb mj 1 (tX f n E (by2 f p)) k))), (11, .int (nI k))], [], M1)) rfl rfl rfl (fun c_142 => ?_) (fun c_142 => ?_)
          · have c_142 : (gI (kb mj 1 (tX f n E (by2 f p)) k)) < 0 := of_decide_eq_true c_142
            have hc3 : ¬ (¬ eqN (tX f n E (by2 f p)) (ltx 15) = 0) := fun h9 => by
              rw [ek, hkk, if_pos h9] at c_142
              exact absurd c_142 (by decide)
            have hsm : fkN f n E (by2 f p) = 0 := by
              unfold fkN
              rw [← lt_15, if_pos (by omega)]
            refine ps_st (S' := (270, [(0, .ref m0), (2, .int 1), (3, .int (nI x)), (4, .int (nI (by2 f p1))), (5, .int (nI p)), (6, .int (nI s3)), (7, .int (nI i)), (8, .int (nI (by4 f (p + 2))))], [.int (nI p)], M1)) rfl rfl rfl ?_
            refine ps_st (S' := (272, [(0, .ref m0), (2, .int 1), (3, .int (nI x)), (4, .int (nI (by2 f p1))), (5, .int (nI p)), (6, .int (nI s3)), (7, .int (nI i)), (8, .int (nI (by4 f (p + 2))))], [.int 6, .int (nI p)], M1)) rfl rfl rfl ?_
            refine ps_st (S' := (274, [(0, .ref m0), (2, .int 1), (3, .int (nI x)), (4, .int (nI (by2 f p1))), (5, .int (nI p)), (6, .int (nI s3)), (7, .int (nI i)), (8, .int (nI (by4 f (p + 2))))], [.int (nI (by4 f (p + 2))), .int 6, .int (nI p)], M1)) rfl rfl rfl ?_
            refine ps_st (S' := (275, [(0, .ref m0), (2, .int 1), (3, .int (nI x)), (4, .int (nI (by2 f p1))), (5, .int (nI p)), (6, .int (nI s3)), (7, .int (nI i)), (8, .int (nI (by4 f (p + 2))))], [.int (6 + (nI (by4 f (p + 2)))), .int (nI p)], M1)) rfl rfl rfl ?_
            rw [nI_add2 (p := 6) (k := by4 f (p + 2)) (x := 6) (y := (nI (by4 f (p + 2)))) rfl rfl (by omega)]
            show pl _ _ _ (_, [(0, .ref m0), (2, .int 1), (3, .int (nI x)), (4, .int (nI (by2 f p1))), (5, .int (nI p)), (6, .int (nI s3)), (7, .int (nI i)), (8, .int (nI (by4 f (p + 2))))], [.int (nI (6 + by4 f (p + 2))), .int (nI p)], M1) _
            refine ps_st (S' := (276, [(0, .ref m0), (2, .int 1), (3, .int (nI x)), (4, .int (nI (by2 f p1))), (5, .int (nI p)), (6, .int (nI s3)), (7, .int (nI i)), (8, .int (nI (by4 f (p + 2))))], [.int ((nI p) + (nI (6 + by4 f (p + 2))))], M1)) rfl rfl rfl ?_
            rw [nI_add1 (p := p) (k := 6 + by4 f (p + 2)) (x := (nI (6 + by4 f (p + 2)))) rfl (by omega)]
            rw [show nI (p + (6 + by4 f (p + 2))) = nI (p + 6 + by4 f (p + 2)) from congrArg nI (by omega)]
            show pl _ _ _ (_, [(0, .ref m0), (2, .int 1), (3, .int (nI x)), (4, .int (nI (by2 f p1))), (5, .int (nI p)), (6, .int (nI s3)), (7, .int (nI i)), (8, .int (nI (by4 f (p + 2))))], [.int (nI (p + 6 + by4 f (p + 2)))], M1) _
            refine ps_st (S' := (278, [(5, .int (nI (p + 6 + by4 f (p + 2)))), (0, .ref m0), (2, .int 1), (3, .int (nI x)), (4, .int (nI (by2 f p1))), (6, .int (nI s3)), (7, .int (nI i)), (8, .int (nI (by4 f (p + 2))))], [], M1)) rfl rfl rfl ?_
            refine ps_st (S' := (281, [(7, .int ((nI i) + 1)), (5, .int (nI (p + 6 + by4 f (p + 2)))), (0, .ref m0), (2, .int 1), (3, .int (nI x)), (4, .int (nI (by2 f p1))), (6, .int (nI s3)), (8, .int (nI (by4 f (p + 2))))], [], M1)) rfl rfl rfl ?_
            rw [nI_add1 (p := i) (k := 1) (x := 1) rfl (by omega)]
            show pl _ _ _ (_, [(7, .int (nI (i + 1))), (5, .int (nI (p + 6 + by4 f (p + 2)))), (0, .ref m0), (2, .int 1), (3, .int (nI x)), (4, .int (nI (by2 f p1))), (6, .int (nI s3)), (8, .int (nI (by4 f (p + 2))))], [], M1) _
            refine ps_st (S' := (18, [(0, .ref m0), (2, .int 1), (3, .int (nI x)), (4, .int (nI (by2 f p1))), (5, .int (nI (p + 6 + by4 f (p + 2)))), (6, .int (nI s3)), (7, .int (nI (i + 1)))], [], M1)) rfl rfl rfl ?_
            exact ih.1 (i + 1) (p + 6 + by4 f (p + 2)) (s2) (s3) M1 I1 R1 hR1 hEI1 hER1 hl51 hl52 hl53 hF1 hY1 hP1 hK1 hX1 (by omega) (hl) (hb) (hq7) (by
                rw [← hs9, faS_u (i := i) (p := p) (s := s2) hi0 h1 hsm])
          · have c_142 : ¬ ((gI (kb mj 1 (tX f n E (by2 f p)) k)) < 0) := of_decide_eq_false c_142
            have hc3 : ¬ eqN (tX f n E (by2 f p)) (ltx 15) = 0 := by
              by_cases h9 : ¬ eqN (tX f n E (by2 f p)) (ltx 15) = 0
              · exact h9
              · rw [ek, hkk, if_neg h9] at c_142; exact absurd (by decide) c_142
            have hsm : fkN f n E (by2 f p) = 1 := by
              unfold fkN
              rw [← lt_15, if_neg hc3]
            rw [show gI (kb mj 1 (tX f n E (by2 f p)) k) = nI 0 by rw [ek, hkk, if_pos hc3]; rfl]
            have hs30 := sb_lt s3 0
            show pl _ _ _ (145, [(0, .ref m0), (2, .int 1), (3, .int (nI x)), (4, .int (nI (by2 f p1))), (5, .int (nI p)), (6, .int (nI s3)), (7, .int (nI i)), (8, .int (nI (by4 f (p + 2)))), (9, .int (nI t)), (10, .int (nI 0)), (11, .int (nI k))], [], M1) _
            refine ps_st (S' := (146, [(0, .ref m0), (2, .int 1), (3, .int (nI x)), (4, .int (nI (by2 f p1))), (5, .int (nI p)), (6, .int (nI s3)), (7, .int (nI i)), (8, .int (nI (by4 f (p + 2)))), (9, .int (nI t)), (10, .int (nI 0)), (11, .int (nI k))], [.int 1], M1)) rfl rfl rfl ?_
            refine ps_st (S' := (147, [(0, .ref m0), (2, .int 1), (3, .int (nI x)), (4, .int (nI (by2 f p1))), (5, .int (nI p)), (6, .int (nI s3)), (7, .int (nI i)), (8, .int (nI (by4 f (p + 2)))), (9, .int (nI t)), (10, .int (nI 0)), (11, .int (nI k))], [.int 1, .int 1], M1)) rfl rfl rfl ?_
            refine ps_if2 (S1 := (160, [(0, .ref m0), (2, .int 1), (3, .int (nI x)), (4, .int (nI (by2 f p1))), (5, .int (nI p)), (6, .int (nI s3)), (7, .int (nI i)), (8, .int (nI (by4 f (p + 2)))), (10, .int (nI 0))], [], M1)) (S2 := (150, [(0, .ref m0), (2, .int 1), (3, .int (nI x)), (4, .int (nI (by2 f p1))), (5, .int (nI p)), (6, .int (nI s3)), (7, .int (nI i)), (8, .int (nI (by4 f (p + 2)))), (9, .int (nI t)), (10, .int (nI 0)), (11, .int (nI k))], [], M1)) rfl rfl rfl (fun c_147 => ?_) (fun c_147 => ?_)
            · exact absurd (of_decide_eq_true c_147) (by decide)
            refine ps_st (S' := (151, [(0, .ref m0), (2, .int 1), (3, .int (nI x)), (4, .int (nI (by2 f p1))), (5, .int (nI p)), (6, .int (nI s3)), (7, .int (nI i)), (8, .int (nI (by4 f (p + 2)))), (9, .int (nI t)), (10, .int (nI 0)), (11, .int (nI k))], [.ref m0], M1)) rfl rfl rfl ?_
            refine pr_ref (j := 31) (S' := (154, [(0, .ref m0), (2, .int 1), (3, .int (nI x)), (4, .int (nI (by2 f p1))), (5, .int (nI p)), (6, .int (nI s3)), (7, .int (nI i)), (8, .int (nI (by4 f (p + 2)))), (9, .int (nI t)), (10, .int (nI 0)), (11, .int (nI k))], [.ref (q 31)], M1)) rfl hR1 rfl rfl ?_
            refine ps_st (S' := (155, [(0, .ref m0), (2, .int 1), (3, .int (nI x)), (4, .int (nI (by2 f p1))), (5, .int (nI p)), (6, .int (nI s3)), (7, .int (nI i)), (8, .int (nI (by4 f (p + 2)))), (9, .int (nI t)), (10, .int (nI 0)), (11, .int (nI k))], [.int (nI x), .ref (q 31)], M1)) rfl rfl rfl ?_
            refine ps_st (S' := (156, [(0, .ref m0), (2, .int 1), (3, .int (nI x)), (4, .int (nI (by2 f p1))), (5, .int (nI p)), (6, .int (nI s3)), (7, .int (nI i)), (8, .int (nI (by4 f (p + 2)))), (9, .int (nI t)), (10, .int (nI 0)), (11, .int (nI k))], [.int (nI x), .ref (q 31), .int (nI x), .ref (q 31)], M1)) rfl rfl rfl ?_
            refine pr_ldu (a := 31) rfl hR1 rfl (fun y_156 i0_156 i1_156 hy_156 => ?_)
            show pl _ _ _ (157, [(0, .ref m0), (2, .int 1), (3, .int (nI x)), (4, .int (nI (by2 f p1))), (5, .int (nI p)), (6, .int (nI s3)), (7, .int (nI i)), (8, .int (nI (by4 f (p + 2)))), (9, .int (nI t)), (10, .int (nI 0)), (11, .int (nI k))], [.int y_156, .int (nI x), .ref (q 31)], M1) _
            rw [nI_toNat (by omega)] at i1_156 hy_156
            refine ps_st (S' := (158, [(0, .ref m0), (2, .int 1), (3, .int (nI x)), (4, .int (nI (by2 f p1))), (5, .int (nI p)), (6, .int (nI s3)), (7, .int (nI i)), (8, .int (nI (by4 f (p + 2)))), (9, .int (nI t)), (10, .int (nI 0)), (11, .int (nI k))], [.int 1, .int y_156, .int (nI x), .ref (q 31)], M1)) rfl rfl rfl ?_
            refine ps_st (S' := (159, [(0, .ref m0), (2, .int 1), (3, .int (nI x)), (4, .int (nI (by2 f p1))), (5, .int (nI p)), (6, .int (nI s3)), (7, .int (nI i)), (8, .int (nI (by4 f (p + 2)))), (9, .int (nI t)), (10, .int (nI 0)), (11, .int (nI k))], [.int (y_156 + 1), .int (nI x), .ref (q 31)], M1)) rfl rfl rfl ?_
            refine pr_st (a := 31) (j := x) rfl hR1 rfl (by omega) (fun M37 R38 i1_159 hR39 hS40 => ?_)
            have hF_41 := hF1.mono (fun _ _ => rfl) (rRx hS40 (by decide))
            have hY_42 := hY1.mono (fun _ _ => rfl) (rRx hS40 (by decide))
            have hP_43 := hP1.mono (fun _ _ => rfl) (rRx hS40 (by decide))
            have hK_44 := hK1.mono (fun _ _ => rfl) (rRx hS40 (by decide))
            have hX_45 := hX1.mono (fun _ _ => rfl) (rRx hS40 (by decide))
            have hER46 := hER1.st hS40 (by decide)
            show pl _ _ _ (160, [(0, .ref m0), (2, .int 1), (3, .int (nI x)), (4, .int (nI (by2 f p1))), (5, .int (nI p)), (6, .int (nI s3)), (7, .int (nI i)), (8, .int (nI (by4 f (p + 2)))), (10, .int (nI 0))], [], M37) _
            refine ps_st (S' := (161, [(0, .ref m0), (2, .int 1), (3, .int (nI x)), (4, .int (nI (by2 f p1))), (5, .int (nI p)), (6, .int (nI s3)), (7, .int (nI i)), (8, .int (nI (by4 f (p + 2)))), (10, .int (nI 0))], [.int 1], M37)) rfl rfl rfl ?_
            refine ps_st (S' := (162, [(0, .ref m0), (2, .int 1), (3, .int (nI x)), (4, .int (nI (by2 f p1))), (5, .int (nI p)), (6, .int (nI s3)), (7, .int (nI i)), (8, .int (nI (by4 f (p + 2)))), (10, .int (nI 0))], [.int 2, .int 1], M37)) rfl rfl rfl ?_
            refine ps_if2 (S1 := (175, [(0, .ref m0), (2, .int 1), (3, .int (nI x)), (4, .int (nI (by2 f p1))), (5, .int (nI p)), (6, .int (nI s3)), (7, .int (nI i)), (8, .int (nI (by4 f (p + 2)))), (10, .int (nI 0))], [], M37)) (S2 := (165, [(0, .ref m0), (2, .int 1), (3, .int (nI x)), (4, .int (nI (by2 f p1))), (5, .int (nI p)), (6, .int (nI s3)), (7, .int (nI i)), (8, .int (nI (by4 f (p + 2)))), (10, .int (nI 0))], [], M37)) rfl rfl rfl (fun c_162 => ?_) (fun c_162 => ?_)
            rotate_left
            · exact absurd (by decide) (of_decide_eq_false c_162)
            refine ps_st (S' := (176, [(0, .ref m0), (2, .int 1), (3, .int (nI x)), (4, .int (nI (by2 f p1))), (5, .int (nI p)), (6, .int (nI s3)), (7, .int (nI i)), (8, .int (nI (by4 f (p + 2)))), (10, .int (nI 0))], [.int 1], M37)) rfl rfl rfl ?_
            refine ps_st (S' := (177, [(0, .ref m0), (2, .int 1), (3, .int (nI x)), (4, .int (nI (by2 f p1))), (5, .int (nI p)), (6, .int (nI s3)), (7, .int (nI i)), (8, .int (nI (by4 f (p + 2)))), (10, .int (nI 0))], [.int 4, .int 1], M37)) rfl rfl rfl ?_
            refine ps_if2 (S1 := (190, [(0, .ref m0), (2, .int 1), (3, .int (nI x)), (4, .int (nI (by2 f p1))), (5, .int (nI p)), (6, .int (nI s3)), (7, .int (nI i)), (8, .int (nI (by4 f (p + 2)))), (10, .int (nI 0))], [], M37)) (S2 := (180, [(0, .ref m0), (2, .int 1), (3, .int (nI x)), (4, .int (nI (by2 f p1))), (5, .int (nI p)), (6, .int (nI s3)), (7, .int (nI i)), (8, .int (nI (by4 f (p + 2)))), (10, .int (nI 0))], [], M37)) rfl rfl rfl (fun c_177 => ?_) (fun c_177 => ?_)
            rotate_left
            · exact absurd (by decide) (of_decide_eq_false c_177)
            refine ps_st (S' := (192, [(0, .ref m0), (2, .int 1), (3, .int (nI x)), (4, .int (nI (by2 f p1))), (5, .int (nI p)), (6, .int (nI s3)), (7, .int (nI i)), (8, .int (nI (by4 f (p + 2)))), (10, .int (nI 0))], [.int (nI s3)], M37)) rfl rfl rfl ?_
            refine ps_st (S' := (194, [(0, .ref m0), (2, .int 1), (3, .int (nI x)), (4, .int (nI (by2 f p1))), (5, .int (nI p)), (6, .int (nI s3)), (7, .int (nI i)), (8, .int (nI (by4 f (p + 2)))), (10, .int (nI 0))], [.int (nI 0), .int (nI s3)], M37)) rfl rfl rfl ?_
            refine ps_st (S' := (195, [(0, .ref m0), (2, .int 1), (3, .int (nI x)), (4, .int (nI (by2 f p1))), (5, .int (nI p)), (6, .int (nI s3)), (7, .int (nI i)), (8, .int (nI (by4 f (p + 2)))), (10, .int (nI 0))], [.int ((nI s3) >>> ((nI 0) &&& 31))], M37)) rfl rfl rfl ?_
            refine ps_st (S' := (196, [(0, .ref m0), (2, .int 1), (3, .int (nI x)), (4, .int (nI (by2 f p1))), (5, .int (nI p)), (6, .int (nI s3)), (7, .int (nI i)), (8, .int (nI (by4 f (p + 2)))), (10, .int (nI 0))], [.int 1, .int ((nI s3) >>> ((nI 0) &&& 31))], M37)) rfl rfl rfl ?_
            refine ps_st (S' := (197, [(0, .ref m0), (2, .int 1), (3, .int (nI x)), (4, .int (nI (by2 f p1))), (5, .int (nI p)), (6, .int (nI s3)), (7, .int (nI i)), (8, .int (nI (by4 f (p + 2)))), (10, .int (nI 0))], [.int (((nI s3) >>> ((nI 0) &&& 31)) &&& 1)], M37)) rfl rfl rfl ?_
            rw [shr_k s3 (by omega) 0 (by omega)]
            show pl _ _ _ (_, [(0, .ref m0), (2, .int 1), (3, .int (nI x)), (4, .int (nI (by2 f p1))), (5, .int (nI p)), (6, .int (nI s3)), (7, .int (nI i)), (8, .int (nI (by4 f (p + 2)))), (10, .int (nI 0))], [.int (nI (sb s3 0))], M37) _
            refine ps_st (S' := (198, [(0, .ref m0), (2, .int 1), (3, .int (nI x)), (4, .int (nI (by2 f p1))), (5, .int (nI p)), (6, .int (nI s3)), (7, .int (nI i)), (8, .int (nI (by4 f (p + 2)))), (10, .int (nI 0))], [.int 1, .int (nI (sb s3 0))], M37)) rfl rfl rfl ?_
            refine ps_if2 (S1 := (212, [(0, .ref m0), (2, .int 1), (3, .int (nI x)), (4, .int (nI (by2 f p1))), (5, .int (nI p)), (6, .int (nI s3)), (7, .int (nI i)), (8, .int (nI (by4 f (p + 2)))), (10, .int (nI 0))], [], M37)) (S2 := (201, [(0, .ref m0), (2, .int 1), (3, .int (nI x)), (4, .int (nI (by2 f p1))), (5, .int (nI p)), (6, .int (nI s3)), (7, .int (nI i)), (8, .int (nI (by4 f (p + 2)))), (10, .int (nI 0))], [], M37)) rfl rfl rfl (fun c_198 => ?_) (fun c_198 => ?_)
            · have c_198 : ¬ (nI (sb s3 0)) = 1 := of_decide_eq_true c_198
              have n_198 : ¬ (sb s3 0 = 1) := fun h9 => c_198 ((eq_nI (p := sb s3 0) (n := 1) (Nat.lt_trans (sb_lt _ _) (by decide)) (by decide)).mpr h9)
              refine ps_st (S' := (213, [(0, .ref m0), (2, .int 1), (3, .int (nI x)), (4, .int (nI (by2 f p1))), (5, .int (nI p)), (6, .int (nI s3)), (7, .int (nI i)), (8, .int (nI (by4 f (p + 2)))), (10, .int (nI 0))], [.ref m0], M37)) rfl rfl rfl ?_
              refine ps_st (S' := (215, [(0, .ref m0), (2, .int 1), (3, .int (nI x)), (4, .int (nI (by2 f p1))), (5, .int (nI p)), (6, .int (nI s3)), (7, .int (nI i)), (8, .int (nI (by4 f (p + 2)))), (10, .int (nI 0))], [.int (nI 0), .ref m0], M37)) rfl rfl rfl ?_
              refine ps_st (S' := (217, [(0, .ref m0), (2, .int 1), (3, .int (nI x)), (4, .int (nI (by2 f p1))), (5, .int (nI p)), (6, .int (nI s3)), (7, .int (nI i)), (8, .int (nI (by4 f (p + 2)))), (10, .int (nI 0))], [.int (nI p), .int (nI 0), .ref m0], M37)) rfl rfl rfl ?_
              refine ps_st (S' := (219, [(0, .ref m0), (2, .int 1), (3, .int (nI x)), (4, .int (nI (by2 f p1))), (5, .int (nI p)), (6, .int (nI s3)), (7, .int (nI i)), (8, .int (nI (by4 f (p + 2)))), (10, .int (nI 0))], [.int (nI p), .int (nI p), .int (nI 0), .ref m0], M37)) rfl rfl rfl ?_
              refine ps_st (S' := (221, [(0, .ref m0), (2, .int 1), (3, .int (nI x)), (4, .int (nI (by2 f p1))), (5, .int (nI p)), (6, .int (nI s3)), (7, .int (nI i)), (8, .int (nI (by4 f (p + 2)))), (10, .int (nI 0))], [.int 6, .int (nI p), .int (nI p), .int (nI 0), .ref m0], M37)) rfl rfl rfl ?_
              refine ps_st (S' := (222, [(0, .ref m0), (2, .int 1), (3, .int (nI x)), (4, .int (nI (by2 f p1))), (5, .int (nI p)), (6, .int (nI s3)), (7, .int (nI i)), (8, .int (nI (by4 f (p + 2)))), (10, .int (nI 0))], [.int ((nI p) + 6), .int (nI p), .int (nI 0), .ref m0], M37)) rfl rfl rfl ?_
              rw [nI_add1 (p := p) (k := 6) (x := 6) rfl (by omega)]
              show pl _ _ _ (_, [(0, .ref m0), (2, .int 1), (3, .int (nI x)), (4, .int (nI (by2 f p1))), (5, .int (nI p)), (6, .int (nI s3)), (7, .int (nI i)), (8, .int (nI (by4 f (p + 2)))), (10, .int (nI 0))], [.int (nI (p + 6)), .int (nI p), .int (nI 0), .ref m0], M37) _
              refine ps_st (S' := (224, [(0, .ref m0), (2, .int 1), (3, .int (nI x)), (4, .int (nI (by2 f p1))), (5, .int (nI p)), (6, .int (nI s3)), (7, .int (nI i)), (8, .int (nI (by4 f (p + 2)))), (10, .int (nI 0))], [.int (nI p), .int (nI (p + 6)), .int (nI p), .int (nI 0), .ref m0], M37)) rfl rfl rfl ?_
              refine ps_st (S' := (226, [(0, .ref m0), (2, .int 1), (3, .int (nI x)), (4, .int (nI (by2 f p1))), (5, .int (nI p)), (6, .int (nI s3)), (7, .int (nI i)), (8, .int (nI (by4 f (p + 2)))), (10, .int (nI 0))], [.int 6, .int (nI p), .int (nI (p + 6)), .int (nI p), .int (nI 0), .ref m0], M37)) rfl rfl rfl ?_
              refine ps_st (S' := (227, [(0, .ref m0), (2, .int 1), (3, .int (nI x)), (4, .int (nI (by2 f p1))), (5, .int (nI p)), (6, .int (nI s3)), (7, .int (nI i)), (8, .int (nI (by4 f (p + 2)))), (10, .int (nI 0))], [.int ((nI p) + 6), .int (nI (p + 6)), .int (nI p), .int (nI 0), .ref m0], M37)) rfl rfl rfl ?_
              rw [nI_add1 (p := p) (k := 6) (x := 6) rfl (by omega)]
              show pl _ _ _ (_, [(0, .ref m0), (2, .int 1), (3, .int (nI x)), (4, .int (nI (by2 f p1))), (5, .int (nI p)), (6, .int (nI s3)), (7, .int (nI i)), (8, .int (nI (by4 f (p + 2)))), (10, .int (nI 0))], [.int (nI (p + 6)), .int (nI (p + 6)), .int (nI p), .int (nI 0), .ref m0], M37) _
              refine ps_st (S' := (229, [(0, .ref m0), (2, .int 1), (3, .int (nI x)), (4, .int (nI (by2 f p1))), (5, .int (nI p)), (6, .int (nI s3)), (7, .int (nI i)), (8, .int (nI (by4 f (p + 2)))), (10, .int (nI 0))], [.int (nI (by4 f (p + 2))), .int (nI (p + 6)), .int (nI (p + 6)), .int (nI p), .int (nI 0), .ref m0], M37)) rfl rfl rfl ?_
              refine ps_st (S' := (230, [(0, .ref m0), (2, .int 1), (3, .int (nI x)), (4, .int (nI (by2 f p1))), (5, .int (nI p)), (6, .int (nI s3)), (7, .int (nI i)), (8, .int (nI (by4 f (p + 2)))), (10, .int (nI 0))], [.int ((nI (p + 6)) + (nI (by4 f (p + 2)))), .int (nI (p + 6)), .int (nI p), .int (nI 0), .ref m0], M37)) rfl rfl rfl ?_
              rw [nI_add1 (p := p + 6) (k := by4 f (p + 2)) (x := (nI (by4 f (p + 2)))) rfl (by omega)]
              show pl _ _ _ (_, [(0, .ref m0), (2, .int 1), (3, .int (nI x)), (4, .int (nI (by2 f p1))), (5, .int (nI p)), (6, .int (nI s3)), (7, .int (nI i)), (8, .int (nI (by4 f (p + 2)))), (10, .int (nI 0))], [.int (nI (p + 6 + by4 f (p + 2))), .int (nI (p + 6)), .int (nI p), .int (nI 0), .ref m0], M37) _
              refine ps_st (S' := (231, [(0, .ref m0), (2, .int 1), (3, .int (nI x)), (4, .int (nI (by2 f p1))), (5, .int (nI p)), (6, .int (nI s3)), (7, .int (nI i)), (8, .int (nI (by4 f (p + 2)))), (10, .int (nI 0))], [.int (nI x), .int (nI (p + 6 + by4 f (p + 2))), .int (nI (p + 6)), .int (nI p), .int (nI 0), .ref m0], M37)) rfl rfl rfl ?_
              refine ps_st (S' := (233, [(0, .ref m0), (2, .int 1), (3, .int (nI x)), (4, .int (nI (by2 f p1))), (5, .int (nI p)), (6, .int (nI s3)), (7, .int (nI i)), (8, .int (nI (by4 f (p + 2)))), (10, .int (nI 0))], [.int (nI s3), .int (nI x), .int (nI (p + 6 + by4 f (p + 2))), .int (nI (p + 6)), .int (nI p), .int (nI 0), .ref m0], M37)) rfl rfl rfl ?_
              refine pl_call (a := [.ref m0, .int (nI 0), .int (nI p), .int (nI (p + 6)), .int (nI (p + 6 + by4 f (p + 2))), .int (nI x), .int (nI s3)]) (rest := []) rfl rfl rfl (rd_attr0 (n := n) (f := f) (tx := tx) (cN := cN) (A := A) (N := N) (mj := mj) (E := E) (p0 := (p + 6)) (e := (p + 6 + by4 f (p + 2))) (x := x) (s3 := s3) (t := (nI p)) (fl := fl) (ds := ds) (l := l) hR39 hl51 hl52 hl53 hF_41 hY_42 hP_43 (hEP) (hN) (hmj) (⟨by omega, by omega⟩) (hl) (hx) (hX_45.1) (hX_45.2) (hdt) (hfd) (hf6)) (fun v47 M48 q49 => ?_)
              rcases q49 with q49 | q49 | q49
              · skip
                obtain ⟨I50, R51, q233_s, rfl, hR52, hI53, hX54⟩ := q49
                have hi55 := (hI53 51 (by decide)).trans hl51
                have hi56 := (hI53 52 (by decide)).trans hl52
                have hi57 := (hI53 53 (by decide)).trans hl53
                have hF_58 := hF_41.mono (cIx hI53 (by decide)) (cRx hX54 (by decide))
                have hY_59 := hY_42.mono (cIx hI53 (by decide)) (cRx hX54 (by decide))
                have hP_60 := hP_43.mono (cIx hI53 (by decide)) (cRx hX54 (by decide))
                have hK_61 := hK_44.mono (cIx hI53 (by decide)) (cRx hX54 (by decide))
                have hX_62 := hX_45.mono (cIx hI53 (by decide)) (cRx hX54 (by decide))
                have hEI63 := hEI1.tr hI53 (by decide)
                have hER64 := hER46.tr hX54 (by decide)
                show pl _ _ _ (236, [(0, .ref m0), (2, .int 1), (3, .int (nI x)), (4, .int (nI (by2 f p1))), (5, .int (nI p)), (6, .int (nI s3)), (7, .int (nI i)), (8, .int (nI (by4 f (p + 2)))), (10, .int (nI 0))], [.int 30], M48) _
                refine ps_st (S' := (238, [(11, .int 30), (0, .ref m0), (2, .int 1), (3, .int (nI x)), (4, .int (nI (by2 f p1))), (5, .int (nI p)), (6, .int (nI s3)), (7, .int (nI i)), (8, .int (nI (by4 f (p + 2)))), (10, .int (nI 0))], [], M48)) rfl rfl rfl ?_
                refine ps_st (S' := (240, [(11, .int 30), (0, .ref m0), (2, .int 1), (3, .int (nI x)), (4, .int (nI (by2 f p1))), (5, .int (nI p)), (6, .int (nI s3)), (7, .int (nI i)), (8, .int (nI (by4 f (p + 2)))), (10, .int (nI 0))], [.int (nI s3)], M48)) rfl rfl rfl ?_
                refine ps_st (S' := (241, [(11, .int 30), (0, .ref m0), (2, .int 1), (3, .int (nI x)), (4, .int (nI (by2 f p1))), (5, .int (nI p)), (6, .int (nI s3)), (7, .int (nI i)), (8, .int (nI (by4 f (p + 2)))), (10, .int (nI 0))], [.int 1, .int (nI s3)], M48)) rfl rfl rfl ?_
                refine ps_st (S' := (243, [(11, .int 30), (0, .ref m0), (2, .int 1), (3, .int (nI x)), (4, .int (nI (by2 f p1))), (5, .int (nI p)), (6, .int (nI s3)), (7, .int (nI i)), (8, .int (nI (by4 f (p + 2)))), (10, .int (nI 0))], [.int (nI 0), .int 1, .int (nI s3)], M48)) rfl rfl rfl ?_
                refine ps_st (S' := (244, [(11, .int 30), (0, .ref m0), (2, .int 1), (3, .int (nI x)), (4, .int (nI (by2 f p1))), (5, .int (nI p)), (6, .int (nI s3)), (7, .int (nI i)), (8, .int (nI (by4 f (p + 2)))), (10, .int (nI 0))], [.int (1 <<< ((nI 0) &&& 31)), .int (nI s3)], M48)) rfl rfl rfl ?_
                refine ps_st (S' := (245, [(11, .int 30), (0, .ref m0), (2, .int 1), (3, .int (nI x)), (4, .int (nI (by2 f p1))), (5, .int (nI p)), (6, .int (nI s3)), (7, .int (nI i)), (8, .int (nI (by4 f (p + 2)))), (10, .int (nI 0))], [.int ((nI s3) ||| (1 <<< ((nI 0) &&& 31)))], M48)) rfl rfl rfl ?_
                rw [or_k s3 0 (by omega)]
                show pl _ _ _ (_, [(11, .int 30), (0, .ref m0), (2, .int 1), (3, .int (nI x)), (4, .int (nI (by2 f p1))), (5, .int (nI p)), (6, .int (nI s3)), (7, .int (nI i)), (8, .int (nI (by4 f (p + 2)))), (10, .int (nI 0))], [.int (nI (so s3 0))], M48) _
                refine ps_st (S' := (247, [(6, .int (nI (so s3 0))), (11, .int 30), (0, .ref m0), (2, .int 1), (3, .int (nI x)), (4, .int (nI (by2 f p1))), (5, .int (nI p)), (7, .int (nI i)), (8, .int (nI (by4 f (p + 2)))), (10, .int (nI 0))], [], M48)) rfl rfl rfl ?_
                refine ps_st (S' := (249, [(6, .int (nI (so s3 0))), (11, .int 30), (0, .ref m0), (2, .int 1), (3, .int (nI x)), (4, .int (nI (by2 f p1))), (5, .int (nI p)), (7, .int (nI i)), (8, .int (nI (by4 f (p + 2)))), (10, .int (nI 0))], [.int 30], M48)) rfl rfl rfl ?_
                refine ps_if (S1 := (261, [(0, .ref m0), (2, .int 1), (3, .int (nI x)), (4, .int (nI (by2 f p1))), (5, .int (nI p)), (6, .int (nI (so s3 0))), (7, .int (nI i)), (8, .int (nI (by4 f (p + 2)))), (11, .int 30)], [], M48)) (S2 := (252, [(6, .int (nI (so s3 0))), (11, .int 30), (0, .ref m0), (2, .int 1), (3, .int (nI x)), (4, .int (nI (by2 f p1))), (5, .int (nI p)), (7, .int (nI i)), (8, .int (nI (by4 f (p + 2)))), (10, .int (nI 0))], [], M48)) rfl rfl rfl (fun c_249 => ?_) (fun c_249 => ?_)
                · exact absurd (of_decide_eq_true c_249) (by decide)
                refine ps_st (S' := (253, [(6, .int (nI (so s3 0))), (11, .int 30), (0, .ref m0), (2, .int 1), (3, .int (nI x)), (4, .int (nI (by2 f p1))), (5, .int (nI p)), (7, .int (nI i)), (8, .int (nI (by4 f (p + 2)))), (10, .int (nI 0))], [.ref m0], M48)) rfl rfl rfl ?_
                refine ps_st (S' := (255, [(6, .int (nI (so s3 0))), (11, .int 30), (0, .ref m0), (2, .int 1), (3, .int (nI x)), (4, .int (nI (by2 f p1))), (5, .int (nI p)), (7, .int (nI i)), (8, .int (nI (by4 f (p + 2)))), (10, .int (nI 0))], [.int 30, .ref m0], M48)) rfl rfl rfl ?_
                refine ps_st (S' := (257, [(6, .int (nI (so s3 0))), (11, .int 30), (0, .ref m0), (2, .int 1), (3, .int (nI x)), (4, .int (nI (by2 f p1))), (5, .int (nI p)), (7, .int (nI i)), (8, .int (nI (by4 f (p + 2)))), (10, .int (nI 0))], [.int (nI p), .int 30, .ref m0], M48)) rfl rfl rfl ?_
                refine pl_call (a := [.ref m0, .int 30, .int (nI p)]) (rest := []) rfl rfl rfl (rd_wrong (x1 := 30) (x2 := (nI p)) hR52) (fun v65 M66 q67 => ?_)
                obtain ⟨I68, R69, rfl, hR70, hI71, hX72, hi73, hi74⟩ := q67
                have hi75 := (hI71 51 (by decide)).trans hi55
                have hi76 := (hI71 52 (by decide)).trans hi56
                have hi77 := (hI71 53 (by decide)).trans hi57
                have hF_78 := hF_58.mono (cIx hI71 (by decide)) (cRx hX72 (by decide))
                have hY_79 := hY_59.mono (cIx hI71 (by decide)) (cRx hX72 (by decide))
                have hP_80 := hP_60.mono (cIx hI71 (by decide)) (cRx hX72 (by decide))
                have hK_81 := hK_61.mono (cIx hI71 (by decide)) (cRx hX72 (by decide))
                have hX_82 := hX_62.mono (cIx hI71 (by decide)) (cRx hX72 (by decide))
                have hEI83 := hEI63.tr hI71 (by decide)
                have hER84 := hER64.tr hX72 (by decide)
                show pl _ _ _ (260, [(6, .int (nI (so s3 0))), (11, .int 30), (0, .ref m0), (2, .int 1), (3, .int (nI x)), (4, .int (nI (by2 f p1))), (5, .int (nI p)), (7, .int (nI i)), (8, .int (nI (by4 f (p + 2)))), (10, .int (nI 0))], [.int 0], M66) _
                refine ps_st (S' := (261, [(0, .ref m0), (2, .int 1), (3, .int (nI x)), (4, .int (nI (by2 f p1))), (5, .int (nI p)), (6, .int (nI (so s3 0))), (7, .int (nI i)), (8, .int (nI (by4 f (p + 2)))), (11, .int 30)], [], M66)) rfl rfl rfl ?_
                refine ps_st (S' := (263, [(0, .ref m0), (2, .int 1), (3, .int (nI x)), (4, .int (nI (by2 f p1))), (5, .int (nI p)), (6, .int (nI (so s3 0))), (7, .int (nI i)), (8, .int (nI (by4 f (p + 2)))), (11, .int 30)], [.int 30], M66)) rfl rfl rfl ?_
                refine ps_if (S1 := (268, [(0, .ref m0), (2, .int 1), (3, .int (nI x)), (4, .int (nI (by2 f p1))), (5, .int (nI p)), (6, .int (nI (so s3 0))), (7, .int (nI i)), (8, .int (nI (by4 f (p + 2))))], [], M66)) (S2 := (266, [(0, .ref m0), (2, .int 1), (3, .int (nI x)), (4, .int (nI (by2 f p1))), (5, .int (nI p)), (6, .int (nI (so s3 0))), (7, .int (nI i)), (8, .int (nI (by4 f (p + 2)))), (11, .int 30)], [], M66)) rfl rfl rfl (fun c_263 => ?_) (fun c_263 => ?_)
                · exact absurd (of_decide_eq_true c_263) (by decide)
                refine ps_st (S' := (267, [(0, .ref m0), (2, .int 1), (3, .int (nI x)), (4, .int (nI (by2 f p1))), (5, .int (nI p)), (6, .int (nI (so s3 0))), (7, .int (nI i)), (8, .int (nI (by4 f (p + 2)))), (11, .int 30)], [.int (-1)], M66)) rfl rfl rfl ?_
                exact ps_ret rfl rfl (Or.inl ⟨(30, p), I68, R69, by
                    rw [← hs9, faS_k (i := i) (p := p) (s := s2) hi0 h1 hsm (by omega), if_pos q233_s], rfl, hR70, hEI83, hER84, hi73, hi74⟩)
              · skip
                obtain ⟨I85, R86, q233_s, q233_b, rfl, hR87, hI88, hX89⟩ := q49
                have hi90 := (hI88 51 (by decide)).trans hl51
                have hi91 := (hI88 52 (by decide)).trans hl52
                have hi92 := (hI88 53 (by decide)).trans hl53
                have hF_93 := hF_41.mono (cIx hI88 (by decide)) (cRx hX89 (by decide))
                have hY_94 := hY_42.mono (cIx hI88 (by decide)) (cRx hX89 (by decide))
                have hP_95 := hP_43.mono (cIx hI88 (by decide)) (cRx hX89 (by decide))
                have hK_96 := hK_44.mono (cIx hI88 (by decide)) (cRx hX89 (by decide))
                have hX_97 := hX_45.mono (cIx hI88 (by decide)) (cRx hX89 (by decide))
                have hEI98 := hEI1.tr hI88 (by decide)
                have hER99 := hER46.tr hX89 (by decide)
                show pl _ _ _ (236, [(0, .ref m0), (2, .int 1), (3, .int (nI x)), (4, .int (nI (by2 f p1))), (5, .int (nI p)), (6, .int (nI s3)), (7, .int (nI i)), (8, .int (nI (by4 f (p + 2)))), (10, .int (nI 0))], [.int 31], M48) _
                refine ps_st (S' := (238, [(11, .int 31), (0, .ref m0), (2, .int 1), (3, .int (nI x)), (4, .int (nI (by2 f p1))), (5, .int (nI p)), (6, .int (nI s3)), (7, .int (nI i)), (8, .int (nI (by4 f (p + 2)))), (10, .int (nI 0))], [], M48)) rfl rfl rfl ?_
                refine ps_st (S' := (240, [(11, .int 31), (0, .ref m0), (2, .int 1), (3, .int (nI x)), (4, .int (nI (by2 f p1))), (5, .int (nI p)), (6, .int (nI s3)), (7, .int (nI i)), (8, .int (nI (by4 f (p + 2)))), (10, .int (nI 0))], [.int (nI s3)], M48)) rfl rfl rfl ?_
                refine ps_st (S' := (241, [(11, .int 31), (0, .ref m0), (2, .int 1), (3, .int (nI x)), (4, .int (nI (by2 f p1))), (5, .int (nI p)), (6, .int (nI s3)), (7, .int (nI i)), (8, .int (nI (by4 f (p + 2)))), (10, .int (nI 0))], [.int 1, .int (nI s3)], M48)) rfl rfl rfl ?_
                refine ps_st (S' := (243, [(11, .int 31), (0, .ref m0), (2, .int 1), (3, .int (nI x)), (4, .int (nI (by2 f p1))), (5, .int (nI p)), (6, .int (nI s3)), (7, .int (nI i)), (8, .int (nI (by4 f (p + 2)))), (10, .int (nI 0))], [.int (nI 0), .int 1, .int (nI s3)], M48)) rfl rfl rfl ?_
                refine ps_st (S' := (244, [(11, .int 31), (0, .ref m0), (2, .int 1), (3, .int (nI x)), (4, .int (nI (by2 f p1))), (5, .int (nI p)), (6, .int (nI s3)), (7, .int (nI i)), (8, .int (nI (by4 f (p + 2)))), (10, .int (nI 0))], [.int (1 <<< ((nI 0) &&& 31)), .int (nI s3)], M48)) rfl rfl rfl ?_
                refine ps_st (S' := (245, [(11, .int 31), (0, .ref m0), (2, .int 1), (3, .int (nI x)), (4, .int (nI (by2 f p1))), (5, .int (nI p)), (6, .int (nI s3)), (7, .int (nI i)), (8, .int (nI (by4 f (p + 2)))), (10, .int (nI 0))], [.int ((nI s3) ||| (1 <<< ((nI 0) &&& 31)))], M48)) rfl rfl rfl ?_
                rw [or_k s3 0 (by omega)]
                show pl _ _ _ (_, [(11, .int 31), (0, .ref m0), (2, .int 1), (3, .int (nI x)), (4, .int (nI (by2 f p1))), (5, .int (nI p)), (6, .int (nI s3)), (7, .int (nI i)), (8, .int (nI (by4 f (p + 2)))), (10, .int (nI 0))], [.int (nI (so s3 0))], M48) _
                refine ps_st (S' := (247, [(6, .int (nI (so s3 0))), (11, .int 31), (0, .ref m0), (2, .int 1), (3, .int (nI x)), (4, .int (nI (by2 f p1))), (5, .int (nI p)), (7, .int (nI i)), (8, .int (nI (by4 f (p + 2)))), (10, .int (nI 0))], [], M48)) rfl rfl rfl ?_
                refine ps_st (S' := (249, [(6, .int (nI (so s3 0))), (11, .int 31), (0, .ref m0), (2, .int 1), (3, .int (nI x)), (4, .int (nI (by2 f p1))), (5, .int (nI p)), (7, .int (nI i)), (8, .int (nI (by4 f (p + 2)))), (10, .int (nI 0))], [.int 31], M48)) rfl rfl rfl ?_
                refine ps_if (S1 := (261, [(0, .ref m0), (2, .int 1), (3, .int (nI x)), (4, .int (nI (by2 f p1))), (5, .int (nI p)), (6, .int (nI (so s3 0))), (7, .int (nI i)), (8, .int (nI (by4 f (p + 2)))), (11, .int 31)], [], M48)) (S2 := (252, [(6, .int (nI (so s3 0))), (11, .int 31), (0, .ref m0), (2, .int 1), (3, .int (nI x)), (4, .int (nI (by2 f p1))), (5, .int (nI p)), (7, .int (nI i)), (8, .int (nI (by4 f (p + 2)))), (10, .int (nI 0))], [], M48)) rfl rfl rfl (fun c_249 => ?_) (fun c_249 => ?_)
                · exact absurd (of_decide_eq_true c_249) (by decide)
                refine ps_st (S' := (253, [(6, .int (nI (so s3 0))), (11, .int 31), (0, .ref m0), (2, .int 1), (3, .int (nI x)), (4, .int (nI (by2 f p1))), (5, .int (nI p)), (7, .int (nI i)), (8, .int (nI (by4 f (p + 2)))), (10, .int (nI 0))], [.ref m0], M48)) rfl rfl rfl ?_
                refine ps_st (S' := (255, [(6, .int (nI (so s3 0))), (11, .int 31), (0, .ref m0), (2, .int 1), (3, .int (nI x)), (4, .int (nI (by2 f p1))), (5, .int (nI p)), (7, .int (nI i)), (8, .int (nI (by4 f (p + 2)))), (10, .int (nI 0))], [.int 31, .ref m0], M48)) rfl rfl rfl ?_
                refine ps_st (S' := (257, [(6, .int (nI (so s3 0))), (11, .int 31), (0, .ref m0), (2, .int 1), (3, .int (nI x)), (4, .int (nI (by2 f p1))), (5, .int (nI p)), (7, .int (nI i)), (8, .int (nI (by4 f (p + 2)))), (10, .int (nI 0))], [.int (nI p), .int 31, .ref m0], M48)) rfl rfl rfl ?_
                refine pl_call (a := [.ref m0, .int 31, .int (nI p)]) (rest := []) rfl rfl rfl (rd_wrong (x1 := 31) (x2 := (nI p)) hR87) (fun v100 M101 q102 => ?_)
                obtain ⟨I103, R104, rfl, hR105, hI106, hX107, hi108, hi109⟩ := q102
                have hi110 := (hI106 51 (by decide)).trans hi90
                have hi111 := (hI106 52 (by decide)).trans hi91
                have hi112 := (hI106 53 (by decide)).trans hi92
                have hF_113 := hF_93.mono (cIx hI106 (by decide)) (cRx hX107 (by decide))
                have hY_114 := hY_94.mono (cIx hI106 (by decide)) (cRx hX107 (by decide))
                have hP_115 := hP_95.mono (cIx hI106 (by decide)) (cRx hX107 (by decide))
                have hK_116 := hK_96.mono (cIx hI106 (by decide)) (cRx hX107 (by decide))
                have hX_117 := hX_97.mono (cIx hI106 (by decide)) (cRx hX107 (by decide))
                have hEI118 := hEI98.tr hI106 (by decide)
                have hER119 := hER99.tr hX107 (by decide)
                show pl _ _ _ (260, [(6, .int (nI (so s3 0))), (11, .int 31), (0, .ref m0), (2, .int 1), (3, .int (nI x)), (4, .int (nI (by2 f p1))), (5, .int (nI p)), (7, .int (nI i)), (8, .int (nI (by4 f (p + 2)))), (10, .int (nI 0))], [.int 0], M101) _
                refine ps_st (S' := (261, [(0, .ref m0), (2, .int 1), (3, .int (nI x)), (4, .int (nI (by2 f p1))), (5, .int (nI p)), (6, .int (nI (so s3 0))), (7, .int (nI i)), (8, .int (nI (by4 f (p + 2)))), (11, .int 31)], [], M101)) rfl rfl rfl ?_
                refine ps_st (S' := (263, [(0, .ref m0), (2, .int 1), (3, .int (nI x)), (4, .int (nI (by2 f p1))), (5, .int (nI p)), (6, .int (nI (so s3 0))), (7, .int (nI i)), (8, .int (nI (by4 f (p + 2)))), (11, .int 31)], [.int 31], M101)) rfl rfl rfl ?_
                refine ps_if (S1 := (268, [(0, .ref m0), (2, .int 1), (3, .int (nI x)), (4, .int (nI (by2 f p1))), (5, .int (nI p)), (6, .int (nI (so s3 0))), (7, .int (nI i)), (8, .int (nI (by4 f (p + 2))))], [], M101)) (S2 := (266, [(0, .ref m0), (2, .int 1), (3, .int (nI x)), (4, .int (nI (by2 f p1))), (5, .int (nI p)), (6, .int (nI (so s3 0))), (7, .int (nI i)), (8, .int (nI (by4 f (p + 2)))), (11, .int 31)], [], M101)) rfl rfl rfl (fun c_263 => ?_) (fun c_263 => ?_)
                · exact absurd (of_decide_eq_true c_263) (by decide)
                refine ps_st (S' := (267, [(0, .ref m0), (2, .int 1), (3, .int (nI x)), (4, .int (nI (by2 f p1))), (5, .int (nI p)), (6, .int (nI (so s3 0))), (7, .int (nI i)), (8, .int (nI (by4 f (p + 2)))), (11, .int 31)], [.int (-1)], M101)) rfl rfl rfl ?_
                exact ps_ret rfl rfl (Or.inl ⟨(31, p), I103, R104, by
                    rw [← hs9, faS_k (i := i) (p := p) (s := s2) hi0 h1 hsm (by omega), if_neg (fun h9 => h9 q233_s), if_pos ⟨fun h9 => q233_b.1 (has_9.mp h9), q233_b.2⟩], rfl, hR105, hEI118, hER119, hi108, hi109⟩)
              · skip
                obtain ⟨I120, R121, q233_s, q233_b, rfl, hR122, hI123, hX124⟩ := q49
                have hi125 := (hI123 51 (by decide)).trans hl51
                have hi126 := (hI123 52 (by decide)).trans hl52
                have hi127 := (hI123 53 (by decide)).trans hl53
                have hF_128 := hF_41.mono (cIx hI123 (by decide)) (cRx hX124 (by decide))
                have hY_129 := hY_42.mono (cIx hI123 (by decide)) (cRx hX124 (by decide))
                have hP_130 := hP_43.mono (cIx hI123 (by decide)) (cRx hX124 (by decide))
                have hK_131 := hK_44.mono (cIx hI123 (by decide)) (cRx hX124 (by decide))
                have hX_132 := hX_45.mono (cIx hI123 (by decide)) (cRx hX124 (by decide))
                have hEI133 := hEI1.tr hI123 (by decide)
                have hER134 := hER46.tr hX124 (by decide)
                show pl _ _ _ (236, [(0, .ref m0), (2, .int 1), (3, .int (nI x)), (4, .int (nI (by2 f p1))), (5, .int (nI p)), (6, .int (nI s3)), (7, .int (nI i)), (8, .int (nI (by4 f (p + 2)))), (10, .int (nI 0))], [.int 0], M48) _
                refine ps_st (S' := (238, [(11, .int 0), (0, .ref m0), (2, .int 1), (3, .int (nI x)), (4, .int (nI (by2 f p1))), (5, .int (nI p)), (6, .int (nI s3)), (7, .int (nI i)), (8, .int (nI (by4 f (p + 2)))), (10, .int (nI 0))], [], M48)) rfl rfl rfl ?_
                refine ps_st (S' := (240, [(11, .int 0), (0, .ref m0), (2, .int 1), (3, .int (nI x)), (4, .int (nI (by2 f p1))), (5, .int (nI p)), (6, .int (nI s3)), (7, .int (nI i)), (8, .int (nI (by4 f (p + 2)))), (10, .int (nI 0))], [.int (nI s3)], M48)) rfl rfl rfl ?_
                refine ps_st (S' := (241, [(11, .int 0), (0, .ref m0), (2, .int 1), (3, .int (nI x)), (4, .int (nI (by2 f p1))), (5, .int (nI p)), (6, .int (nI s3)), (7, .int (nI i)), (8, .int (nI (by4 f (p + 2)))), (10, .int (nI 0))], [.int 1, .int (nI s3)], M48)) rfl rfl rfl ?_
                refine ps_st (S' := (243, [(11, .int 0), (0, .ref m0), (2, .int 1), (3, .int (nI x)), (4, .int (nI (by2 f p1))), (5, .int (nI p)), (6, .int (nI s3)), (7, .int (nI i)), (8, .int (nI (by4 f (p + 2)))), (10, .int (nI 0))], [.int (nI 0), .int 1, .int (nI s3)], M48)) rfl rfl rfl ?_
                refine ps_st (S' := (244, [(11, .int 0), (0, .ref m0), (2, .int 1), (3, .int (nI x)), (4, .int (nI (by2 f p1))), (5, .int (nI p)), (6, .int (nI s3)), (7, .int (nI i)), (8, .int (nI (by4 f (p + 2)))), (10, .int (nI 0))], [.int (1 <<< ((nI 0) &&& 31)), .int (nI s3)], M48)) rfl rfl rfl ?_
                refine ps_st (S' := (245, [(11, .int 0), (0, .ref m0), (2, .int 1), (3, .int (nI x)), (4, .int (nI (by2 f p1))), (5, .int (nI p)), (6, .int (nI s3)), (7, .int (nI i)), (8, .int (nI (by4 f (p + 2)))), (10, .int (nI 0))], [.int ((nI s3) ||| (1 <<< ((nI 0) &&& 31)))], M48)) rfl rfl rfl ?_
                rw [or_k s3 0 (by omega)]
                show pl _ _ _ (_, [(11, .int 0), (0, .ref m0), (2, .int 1), (3, .int (nI x)), (4, .int (nI (by2 f p1))), (5, .int (nI p)), (6, .int (nI s3)), (7, .int (nI i)), (8, .int (nI (by4 f (p + 2)))), (10, .int (nI 0))], [.int (nI (so s3 0))], M48) _
                refine ps_st (S' := (247, [(6, .int (nI (so s3 0))), (11, .int 0), (0, .ref m0), (2, .int 1), (3, .int (nI x)), (4, .int (nI (by2 f p1))), (5, .int (nI p)), (7, .int (nI i)), (8, .int (nI (by4 f (p + 2)))), (10, .int (nI 0))], [], M48)) rfl rfl rfl ?_
                refine ps_st (S' := (249, [(6, .int (nI (so s3 0))), (11, .int 0), (0, .ref m0), (2, .int 1), (3, .int (nI x)), (4, .int (nI (by2 f p1))), (5, .int (nI p)), (7, .int (nI i)), (8, .int (nI (by4 f (p + 2)))), (10, .int (nI 0))], [.int 0], M48)) rfl rfl rfl ?_
                refine ps_if (S1 := (261, [(0, .ref m0), (2, .int 1), (3, .int (nI x)), (4, .int (nI (by2 f p1))), (5, .int (nI p)), (6, .int (nI (so s3 0))), (7, .int (nI i)), (8, .int (nI (by4 f (p + 2)))), (11, .int 0)], [], M48)) (S2 := (252, [(6, .int (nI (so s3 0))), (11, .int 0), (0, .ref m0), (2, .int 1), (3, .int (nI x)), (4, .int (nI (by2 f p1))), (5, .int (nI p)), (7, .int (nI i)), (8, .int (nI (by4 f (p + 2)))), (10, .int (nI 0))], [], M48)) rfl rfl rfl (fun c_249 => ?_) (fun c_249 => ?_)
                rotate_left
                · exact absurd (by decide) (of_decide_eq_false c_249)
                refine ps_st (S' := (263, [(0, .ref m0), (2, .int 1), (3, .int (nI x)), (4, .int (nI (by2 f p1))), (5, .int (nI p)), (6, .int (nI (so s3 0))), (7, .int (nI i)), (8, .int (nI (by4 f (p + 2)))), (11, .int 0)], [.int 0], M48)) rfl rfl rfl ?_
                refine ps_if (S1 := (268, [(0, .ref m0), (2, .int 1), (3, .int (nI x)), (4, .int (nI (by2 f p1))), (5, .int (nI p)), (6, .int (nI (so s3 0))), (7, .int (nI i)), (8, .int (nI (by4 f (p + 2))))], [], M48)) (S2 := (266, [(0, .ref m0), (2, .int 1), (3, .int (nI x)), (4, .int (nI (by2 f p1))), (5, .int (nI p)), (6, .int (nI (so s3 0))), (7, .int (nI i)), (8, .int (nI (by4 f (p + 2)))), (11, .int 0)], [], M48)) rfl rfl rfl (fun c_263 => ?_) (fun c_263 => ?_)
                rotate_left
                · exact absurd (by decide) (of_decide_eq_false c_263)
                refine ps_st (S' := (270, [(0, .ref m0), (2, .int 1), (3, .int (nI x)), (4, .int (nI (by2 f p1))), (5, .int (nI p)), (6, .int (nI (so s3 0))), (7, .int (nI i)), (8, .int (nI (by4 f (p + 2))))], [.int (nI p)], M48)) rfl rfl rfl ?_
                refine ps_st (S' := (272, [(0, .ref m0), (2, .int 1), (3, .int (nI x)), (4, .int (nI (by2 f p1))), (5, .int (nI p)), (6, .int (nI (so s3 0))), (7, .int (nI i)), (8, .int (nI (by4 f (p + 2))))], [.int 6, .int (nI p)], M48)) rfl rfl rfl ?_
                refine ps_st (S' := (274, [(0, .ref m0), (2, .int 1), (3, .int (nI x)), (4, .int (nI (by2 f p1))), (5, .int (nI p)), (6, .int (nI (so s3 0))), (7, .int (nI i)), (8, .int (nI (by4 f (p + 2))))], [.int (nI (by4 f (p + 2))), .int 6, .int (nI p)], M48)) rfl rfl rfl ?_
                refine ps_st (S' := (275, [(0, .ref m0), (2, .int 1), (3, .int (nI x)), (4, .int (nI (by2 f p1))), (5, .int (nI p)), (6, .int (nI (so s3 0))), (7, .int (nI i)), (8, .int (nI (by4 f (p + 2))))], [.int (6 + (nI (by4 f (p + 2)))), .int (nI p)], M48)) rfl rfl rfl ?_
                rw [nI_add2 (p := 6) (k := by4 f (p + 2)) (x := 6) (y := (nI (by4 f (p + 2)))) rfl rfl (by omega)]
                show pl _ _ _ (_, [(0, .ref m0), (2, .int 1), (3, .int (nI x)), (4, .int (nI (by2 f p1))), (5, .int (nI p)), (6, .int (nI (so s3 0))), (7, .int (nI i)), (8, .int (nI (by4 f (p + 2))))], [.int (nI (6 + by4 f (p + 2))), .int (nI p)], M48) _
                refine ps_st (S' := (276, [(0, .ref m0), (2, .int 1), (3, .int (nI x)), (4, .int (nI (by2 f p1))), (5, .int (nI p)), (6, .int (nI (so s3 0))), (7, .int (nI i)), (8, .int (nI (by4 f (p + 2))))], [.int ((nI p) + (nI (6 + by4 f (p + 2))))], M48)) rfl rfl rfl ?_
                rw [nI_add1 (p := p) (k := 6 + by4 f (p + 2)) (x := (nI (6 + by4 f (p + 2)))) rfl (by omega)]
                rw [show nI (p + (6 + by4 f (p + 2))) = nI (p + 6 + by4 f (p + 2)) from congrArg nI (by omega)]
                show pl _ _ _ (_, [(0, .ref m0), (2, .int 1), (3, .int (nI x)), (4, .int (nI (by2 f p1))), (5, .int (nI p)), (6, .int (nI (so s3 0))), (7, .int (nI i)), (8, .int (nI (by4 f (p + 2))))], [.int (nI (p + 6 + by4 f (p + 2)))], M48) _
                refine ps_st (S' := (278, [(5, .int (nI (p + 6 + by4 f (p + 2)))), (0, .ref m0), (2, .int 1), (3, .int (nI x)), (4, .int (nI (by2 f p1))), (6, .int (nI (so s3 0))), (7, .int (nI i)), (8, .int (nI (by4 f (p + 2))))], [], M48)) rfl rfl rfl ?_
                refine ps_st (S' := (281, [(7, .int ((nI i) + 1)), (5, .int (nI (p + 6 + by4 f (p + 2)))), (0, .ref m0), (2, .int 1), (3, .int (nI x)), (4, .int (nI (by2 f p1))), (6, .int (nI (so s3 0))), (8, .int (nI (by4 f (p + 2))))], [], M48)) rfl rfl rfl ?_
                rw [nI_add1 (p := i) (k := 1) (x := 1) rfl (by omega)]
                show pl _ _ _ (_, [(7, .int (nI (i + 1))), (5, .int (nI (p + 6 + by4 f (p + 2)))), (0, .ref m0), (2, .int 1), (3, .int (nI x)), (4, .int (nI (by2 f p1))), (6, .int (nI (so s3 0))), (8, .int (nI (by4 f (p + 2))))], [], M48) _
                refine ps_st (S' := (18, [(0, .ref m0), (2, .int 1), (3, .int (nI x)), (4, .int (nI (by2 f p1))), (5, .int (nI (p + 6 + by4 f (p + 2)))), (6, .int (nI (so s3 0))), (7, .int (nI (i + 1)))], [], M48)) rfl rfl rfl ?_
                exact ih.1 (i + 1) (p + 6 + by4 f (p + 2)) (so s2 1) (so s3 0) M48 I120 R121 hR122 hEI133 hER134 hi125 hi126 hi127 hF_128 hY_129 hP_130 hK_131 hX_132 (by omega) (so_lt hl (by decide)) (by rw [sb_so, sb_so]; rfl) (hq7) (by
                    rw [← hs9, faS_k (i := i) (p := p) (s := s2) hi0 h1 hsm (by omega), if_neg (fun h9 => h9 q233_s), if_neg (fun h9 => (by rcases q233_b with h8 | h8; exact h9.1 (has_9.mpr h8); exact h9.2 h8))])
            · have c_198 : ¬ (¬ (nI (sb s3 0)) = 1) := of_decide_eq_false c_198
              have n_198 : sb s3 0 = 1 := (eq_nI (p := sb s3 0) (n := 1) (Nat.lt_trans (sb_lt _ _) (by decide)) (by decide)).mp (Decidable.not_not.mp c_198)
              refine ps_st (S' := (202, [(0, .ref m0), (2, .int 1), (3, .int (nI x)), (4, .int (nI (by2 f p1))), (5, .int (nI p)), (6, .int (nI s3)), (7, .int (nI i)), (8, .int (nI (by4 f (p + 2)))), (10, .int (nI 0))], [.ref m0], M37)) rfl rfl rfl ?_
              refine ps_st (S' := (204, [(0, .ref m0), (2, .int 1), (3, .int (nI x)), (4, .int (nI (by2 f p1))), (5, .int (nI p)), (6, .int (nI s3)), (7, .int (nI i)), (8, .int (nI (by4 f (p + 2)))), (10, .int (nI 0))], [.int 29, .ref m0], M37)) rfl rfl rfl ?_
              refine ps_st (S' := (206, [(0, .ref m0), (2, .int 1), (3, .int (nI x)), (4, .int (nI (by2 f p1))), (5, .int (nI p)), (6, .int (nI s3)), (7, .int (nI i)), (8, .int (nI (by4 f (p + 2)))), (10, .int (nI 0))], [.int (nI p), .int 29, .ref m0], M37)) rfl rfl rfl ?_
              refine pl_call (a := [.ref m0, .int 29, .int (nI p)]) (rest := []) rfl rfl rfl (rd_wrong (x1 := 29) (x2 := (nI p)) hR39) (fun v135 M136 q137 => ?_)
              obtain ⟨I138, R139, rfl, hR140, hI141, hX142, hi143, hi144⟩ := q137
              have hi145 := (hI141 51 (by decide)).trans hl51
              have hi146 := (hI141 52 (by decide)).trans hl52
              have hi147 := (hI141 53 (by decide)).trans hl53
              have hF_148 := hF_41.mono (cIx hI141 (by decide)) (cRx hX142 (by decide))
              have hY_149 := hY_42.mono (cIx hI141 (by decide)) (cRx hX142 (by decide))
              have hP_150 := hP_43.mono (cIx hI141 (by decide)) (cRx hX142 (by decide))
              have hK_151 := hK_44.mono (cIx hI141 (by decide)) (cRx hX142 (by decide))
              have hX_152 := hX_45.mono (cIx hI141 (by decide)) (cRx hX142 (by decide))
              have hEI153 := hEI1.tr hI141 (by decide)
              have hER154 := hER46.tr hX142 (by decide)
              show pl _ _ _ (209, [(0, .ref m0), (2, .int 1), (3, .int (nI x)), (4, .int (nI (by2 f p1))), (5, .int (nI p)), (6, .int (nI s3)), (7, .int (nI i)), (8, .int (nI (by4 f (p + 2)))), (10, .int (nI 0))], [.int 0], M136) _
              refine ps_st (S' := (210, [(0, .ref m0), (2, .int 1), (3, .int (nI x)), (4, .int (nI (by2 f p1))), (5, .int (nI p)), (6, .int (nI s3)), (7, .int (nI i)), (8, .int (nI (by4 f (p + 2)))), (10, .int (nI 0))], [], M136)) rfl rfl rfl ?_
              refine ps_st (S' := (211, [(0, .ref m0), (2, .int 1), (3, .int (nI x)), (4, .int (nI (by2 f p1))), (5, .int (nI p)), (6, .int (nI s3)), (7, .int (nI i)), (8, .int (nI (by4 f (p + 2)))), (10, .int (nI 0))], [.int (-1)], M136)) rfl rfl rfl ?_
              exact ps_ret rfl rfl (Or.inl ⟨(29, p), I138, R139, by
                  rw [← hs9, faS_29 (i := i) (p := p) (s := s2) hi0 h1 hsm (by omega)], rfl, hR140, hEI153, hER154, hi143, hi144⟩)
        · have c_86 : ¬ ((nI 10) ≤ (nI k)) := of_decide_eq_false c_86
          have n_86 : ¬ (10 ≤ k) := fun h9 => c_86 ((le_nI (p := 10) (n := k) (by decide) (by omega)).mpr h9)
          refine ps_st (S' := (90, [(0, .ref m0), (2, .int 1), (3, .int (nI x)), (4, .int (nI (by2 f p1))), (5, .int (nI p)), (6, .int (nI s3)), (7, .int (nI i)), (8, .int (nI (by4 f (p + 2)))), (9, .int (nI t)), (10, .int (gI (kb mj 1 (tX f n E (by2 f p)) k))), (11, .int (nI k))], [.ref m0], M1)) rfl rfl rfl ?_
          refine pr_ref (j := 63) (S' := (93, [(0, .ref m0), (2, .int 1), (3, .int (nI x)), (4, .int (nI (by2 f p1))), (5, .int (nI p)), (6, .int (nI s3)), (7, .int (nI i)), (8, .int (nI (by4 f (p + 2)))), (9, .int (nI t)), (10, .int (gI (kb mj 1 (tX f n E (by2 f p)) k))), (11, .int (nI k))], [.ref (q 63)], M1)) rfl hR1 rfl rfl ?_
          refine ps_st (S' := (95, [(0, .ref m0), (2, .int 1), (3, .int (nI x)), (4, .int (nI (by2 f p1))), (5, .int (nI p)), (6, .int (nI s3)), (7, .int (nI i)), (8, .int (nI (by4 f (p + 2)))), (9, .int (nI t)), (10, .int (gI (kb mj 1 (tX f n E (by2 f p)) k))), (11, .int (nI k))], [.int (nI k), .ref (q 63)], M1)) rfl rfl rfl ?_
          have hki_95 := kiN_lt k
          refine pr_ld (a := 63) (j := k) (y := (nI (kiN k))) (S' := (96, [(0, .ref m0), (2, .int 1), (3, .int (nI x)), (4, .int (nI (by2 f p1))), (5, .int (nI p)), (6, .int (nI s3)), (7, .int (nI i)), (8, .int (nI (by4 f (p + 2)))), (9, .int (nI t)), (10, .int (gI (kb mj 1 (tX f n E (by2 f p)) k))), (11, .int (nI k))], [.int (nI (kiN k))], M1)) rfl hR1 rfl (by omega) (fun _ => (hK1 k (by omega)).1) rfl (fun i1_95 => ?_)
          refine ps_st (S' := (97, [(0, .ref m0), (2, .int 1), (3, .int (nI x)), (4, .int (nI (by2 f p1))), (5, .int (nI p)), (6, .int (nI s3)), (7, .int (nI i)), (8, .int (nI (by4 f (p + 2)))), (9, .int (nI t)), (10, .int (gI (kb mj 1 (tX f n E (by2 f p)) k))), (11, .int (nI k))], [.int 1, .int (nI (kiN k))], M1)) rfl rfl rfl ?_
          refine ps_if2 (S1 := (134, [(0, .ref m0), (2, .int 1), (3, .int (nI x)), (4, .int (nI (by2 f p1))), (5, .int (nI p)), (6, .int (nI s3)), (7, .int (nI i)), (8, .int (nI (by4 f (p + 2)))), (9, .int (nI t)), (10, .int (gI (kb mj 1 (tX f n E (by2 f p)) k))), (11, .int (nI k))], [], M1)) (S2 := (100, [(0, .ref m0), (2, .int 1), (3, .int (nI x)), (4, .int (nI (by2 f p1))), (5, .int (nI p)), (6, .int (nI s3)), (7, .int (nI i)), (8, .int (nI (by4 f (p + 2)))), (9, .int (nI t)), (10, .int (gI (kb mj 1 (tX f n E (by2 f p)) k))), (11, .int (nI k))], [], M1)) rfl rfl rfl (fun c_97 => ?_) (fun c_97 => ?_)
          · have c_97 : ¬ (nI (kiN k)) = 1 := of_decide_eq_true c_97
            have n_97 : ¬ (kiN k = 1) := fun h9 => c_97 ((eq_nI (p := kiN k) (n := 1) (Nat.lt_trans (kiN_lt _) (by decide)) (by decide)).mpr h9)
            refine ps_st (S' := (137, [(11, .int ((nI k) + 1)), (0, .ref m0), (2, .int 1), (3, .int (nI x)), (4, .int (nI (by2 f p1))), (5, .int (nI p)), (6, .int (nI s3)), (7, .int (nI i)), (8, .int (nI (by4 f (p + 2)))), (9, .int (nI t)), (10, .int (gI (kb mj 1 (tX f n E (by2 f p)) k)))], [], M1)) rfl rfl rfl ?_
            rw [nI_add1 (p := k) (k := 1) (x := 1) rfl (by omega)]
            show pl _ _ _ (_, [(11, .int (nI (k + 1))), (0, .ref m0), (2, .int 1), (3, .int (nI x)), (4, .int (nI (by2 f p1))), (5, .int (nI p)), (6, .int (nI s3)), (7, .int (nI i)), (8, .int (nI (by4 f (p + 2)))), (9, .int (nI t)), (10, .int (gI (kb mj 1 (tX f n E (by2 f p)) k)))], [], M1) _
            refine ps_st (S' := (79, [(0, .ref m0), (2, .int 1), (3, .int (nI x)), (4, .int (nI (by2 f p1))), (5, .int (nI p)), (6, .int (nI s3)), (7, .int (nI i)), (8, .int (nI (by4 f (p + 2)))), (9, .int (nI t)), (10, .int (gI (kb mj 1 (tX f n E (by2 f p)) k))), (11, .int (nI (k + 1)))], [], M1)) rfl rfl rfl ?_
            have hkb : (gI (kb mj 1 (tX f n E (by2 f p)) k)) = gI (kb mj 1 (tX f n E (by2 f p)) (k + 1)) := by
              conv => rhs; unfold kb
              rw [if_neg (by omega)]
            rw [hkb]
            exact ih.2 (i) (p) (s2) (s3) (k + 1) (t) M1 I1 R1 hR1 hEI1 hER1 hl51 hl52 hl53 hF1 hY1 hP1 hK1 hX1 (hi0) (hl) (hb) (ha) (hs9) (by omega) (h1) (hsy)
          · have c_97 : ¬ (¬ (nI (kiN k)) = 1) := of_decide_eq_false c_97
            have n_97 : kiN k = 1 := (eq_nI (p := kiN k) (n := 1) (Nat.lt_trans (kiN_lt _) (by decide)) (by decide)).mp (Decidable.not_not.mp c_97)
            refine ps_st (S' := (101, [(0, .ref m0), (2, .int 1), (3, .int (nI x)), (4, .int (nI (by2 f p1))), (5, .int (nI p)), (6, .int (nI s3)), (7, .int (nI i)), (8, .int (nI (by4 f (p + 2)))), (9, .int (nI t)), (10, .int (gI (kb mj 1 (tX f n E (by2 f p)) k))), (11, .int (nI k))], [.ref m0], M1)) rfl rfl rfl ?_
            refine pr_int (j := 53) (S' := (104, [(0, .ref m0), (2, .int 1), (3, .int (nI x)), (4, .int (nI (by2 f p1))), (5, .int (nI p)), (6, .int (nI s3)), (7, .int (nI i)), (8, .int (nI (by4 f (p + 2)))), (9, .int (nI t)), (10, .int (gI (kb mj 1 (tX f n E (by2 f p)) k))), (11, .int (nI k))], [.int (nI mj)], M1)) rfl hR1 rfl hl53 rfl ?_
            refine ps_st (S' := (105, [(0, .ref m0), (2, .int 1), (3, .int (nI x)), (4, .int (nI (by2 f p1))), (5, .int (nI p)), (6, .int (nI s3)), (7, .int (nI i)), (8, .int (nI (by4 f (p + 2)))), (9, .int (nI t)), (10, .int (gI (kb mj 1 (tX f n E (by2 f p)) k))), (11, .int (nI k))], [.ref m0, .int (nI mj)], M1)) rfl rfl rfl ?_
            refine pr_ref (j := 64) (S' := (108, [(0, .ref m0), (2, .int 1), (3, .int (nI x)), (4, .int (nI (by2 f p1))), (5, .int (nI p)), (6, .int (nI s3)), (7, .int (nI i)), (8, .int (nI (by4 f (p + 2)))), (9, .int (nI t)), (10, .int (gI (kb mj 1 (tX f n E (by2 f p)) k))), (11, .int (nI k))], [.ref (q 64), .int (nI mj)], M1)) rfl hR1 rfl rfl ?_
            refine ps_st (S' := (110, [(0, .ref m0), (2, .int 1), (3, .int (nI x)), (4, .int (nI (by2 f p1))), (5, .int (nI p)), (6, .int (nI s3)), (7, .int (nI i)), (8, .int (nI (by4 f (p + 2)))), (9, .int (nI t)), (10, .int (gI (kb mj 1 (tX f n E (by2 f p)) k))), (11, .int (nI k))], [.int (nI k), .ref (q 64), .int (nI mj)], M1)) rfl rfl rfl ?_
            have hkf_110 := kfN_lt k
            refine pr_ld (a := 64) (j := k) (y := (nI (kfN k))) (S' := (111, [(0, .ref m0), (2, .int 1), (3, .int (nI x)), (4, .int (nI (by2 f p1))), (5, .int (nI p)), (6, .int (nI s3)), (7, .int (nI i)), (8, .int (nI (by4 f (p + 2)))), (9, .int (nI t)), (10, .int (gI (kb mj 1 (tX f n E (by2 f p)) k))), (11, .int (nI k))], [.int (nI (kfN k)), .int (nI mj)], M1)) rfl hR1 rfl (by omega) (fun _ => (hK1 k (by omega)).2) rfl (fun i1_110 => ?_)
            refine ps_if2 (S1 := (134, [(0, .ref m0), (2, .int 1), (3, .int (nI x)), (4, .int (nI (by2 f p1))), (5, .int (nI p)), (6, .int (nI s3)), (7, .int (nI i)), (8, .int (nI (by4 f (p + 2)))), (9, .int (nI t)), (10, .int (gI (kb mj 1 (tX f n E (by2 f p)) k))), (11, .int (nI k))], [], M1)) (S2 := (114, [(0, .ref m0), (2, .int 1), (3, .int (nI x)), (4, .int (nI (by2 f p1))), (5, .int (nI p)), (6, .int (nI s3)), (7, .int (nI i)), (8, .int (nI (by4 f (p + 2)))), (9, .int (nI t)), (10, .int (gI (kb mj 1 (tX f n E (by2 f p)) k))), (11, .int (nI k))], [], M1)) rfl rfl rfl (fun c_111 => ?_) (fun c_111 => ?_)
            · have c_111 : (nI mj) < (nI (kfN k)) := of_decide_eq_true c_111
              have n_111 : mj < kfN k := (lt_nI (p := mj) (n := kfN k) (by omega) (Nat.lt_trans (kfN_lt _) (by decide))).mp c_111
              refine ps_st (S' := (137, [(11, .int ((nI k) + 1)), (0, .ref m0), (2, .int 1), (3, .int (nI x)), (4, .int (nI (by2 f p1))), (5, .int (nI p)), (6, .int (nI s3)), (7, .int (nI i)), (8, .int (nI (by4 f (p + 2)))), (9, .int (nI t)), (10, .int (gI (kb mj 1 (tX f n E (by2 f p)) k)))], [], M1)) rfl rfl rfl ?_
              rw [nI_add1 (p := k) (k := 1) (x := 1) rfl (by omega)]
              show pl _ _ _ (_, [(11, .int (nI (k + 1))), (0, .ref m0), (2, .int 1), (3, .int (nI x)), (4, .int (nI (by2 f p1))), (5, .int (nI p)), (6, .int (nI s3)), (7, .int (nI i)), (8, .int (nI (by4 f (p + 2)))), (9, .int (nI t)), (10, .int (gI (kb mj 1 (tX f n E (by2 f p)) k)))], [], M1) _
              refine ps_st (S' := (79, [(0, .ref m0), (2, .int 1), (3, .int (nI x)), (4, .int (nI (by2 f p1))), (5, .int (nI p)), (6, .int (nI s3)), (7, .int (nI i)), (8, .int (nI (by4 f (p + 2)))), (9, .int (nI t)), (10, .int (gI (kb mj 1 (tX f n E (by2 f p)) k))), (11, .int (nI (k + 1)))], [], M1)) rfl rfl rfl ?_
              have hkb : (gI (kb mj 1 (tX f n E (by2 f p)) k)) = gI (kb mj 1 (tX f n E (by2 f p)) (k + 1)) := by
                conv => rhs; unfold kb
                rw [if_neg (by omega)]
              rw [hkb]
              exact ih.2 (i) (p) (s2) (s3) (k + 1) (t) M1 I1 R1 hR1 hEI1 hER1 hl51 hl52 hl53 hF1 hY1 hP1 hK1 hX1 (hi0) (hl) (hb) (ha) (hs9) (by omega) (h1) (hsy)
            · have c_111 : ¬ ((nI mj) < (nI (kfN k))) := of_decide_eq_false c_111
              have n_111 : ¬ (mj < kfN k) := fun h9 => c_111 ((lt_nI (p := mj) (n := kfN k) (by omega) (Nat.lt_trans (kfN_lt _) (by decide))).mpr h9)
              refine ps_st (S' := (115, [(0, .ref m0), (2, .int 1), (3, .int (nI x)), (4, .int (nI (by2 f p1))), (5, .int (nI p)), (6, .int (nI s3)), (7, .int (nI i)), (8, .int (nI (by4 f (p + 2)))), (9, .int (nI t)), (10, .int (gI (kb mj 1 (tX f n E (by2 f p)) k))), (11, .int (nI k))], [.ref m0], M1)) rfl rfl rfl ?_
              refine ps_st (S' := (117, [(0, .ref m0), (2, .int 1), (3, .int (nI x)), (4, .int (nI (by2 f p1))), (5, .int (nI p)), (6, .int (nI s3)), (7, .int (nI i)), (8, .int (nI (by4 f (p + 2)))), (9, .int (nI t)), (10, .int (gI (kb mj 1 (tX f n E (by2 f p)) k))), (11, .int (nI k))], [.int (nI t), .ref m0], M1)) rfl rfl rfl ?_
              refine ps_st (S' := (118, [(0, .ref m0), (2, .int 1), (3, .int (nI x)), (4, .int (nI (by2 f p1))), (5, .int (nI p)), (6, .int (nI s3)), (7, .int (nI i)), (8, .int (nI (by4 f (p + 2)))), (9, .int (nI t)), (10, .int (gI (kb mj 1 (tX f n E (by2 f p)) k))), (11, .int (nI k))], [.ref m0, .int (nI t), .ref m0], M1)) rfl rfl rfl ?_
              refine pr_ref (j := 62) (S' := (121, [(0, .ref m0), (2, .int 1), (3, .int (nI x)), (4, .int (nI (by2 f p1))), (5, .int (nI p)), (6, .int (nI s3)), (7, .int (nI i)), (8, .int (nI (by4 f (p + 2)))), (9, .int (nI t)), (10, .int (gI (kb mj 1 (tX f n E (by2 f p)) k))), (11, .int (nI k))], [.ref (q 62), .int (nI t), .ref m0], M1)) rfl hR1 rfl rfl ?_
              refine ps_st (S' := (123, [(0, .ref m0), (2, .int 1), (3, .int (nI x)), (4, .int (nI (by2 f p1))), (5, .int (nI p)), (6, .int (nI s3)), (7, .int (nI i)), (8, .int (nI (by4 f (p + 2)))), (9, .int (nI t)), (10, .int (gI (kb mj 1 (tX f n E (by2 f p)) k))), (11, .int (nI k))], [.int (nI k), .ref (q 62), .int (nI t), .ref m0], M1)) rfl rfl rfl ?_
              refine pr_kn (j := k) (S' := (124, [(0, .ref m0), (2, .int 1), (3, .int (nI x)), (4, .int (nI (by2 f p1))), (5, .int (nI p)), (6, .int (nI s3)), (7, .int (nI i)), (8, .int (nI (by4 f (p + 2)))), (9, .int (nI t)), (10, .int (gI (kb mj 1 (tX f n E (by2 f p)) k))), (11, .int (nI k))], [.ref (g.2.1 (15 + k)), .int (nI t), .ref m0], M1)) rfl hR1 (by omega) rfl ?_
              refine pl_call (a := [.ref m0, .int (nI t), .ref (g.2.1 (15 + k))]) (rest := []) rfl rfl rfl (rd_is (tx := tx) (cN := cN) (A := A) (s := t) (l := (tX f n E (by2 f p))) (lk := (15 + k)) hR1 hY1 (hsy) (⟨by omega, by omega⟩)) (fun v155 M156 q157 => ?_)
              obtain ⟨rfl, rfl⟩ := q157
              show pl _ _ _ (127, [(0, .ref m0), (2, .int 1), (3, .int (nI x)), (4, .int (nI (by2 f p1))), (5, .int (nI p)), (6, .int (nI s3)), (7, .int (nI i)), (8, .int (nI (by4 f (p + 2)))), (9, .int (nI t)), (10, .int (gI (kb mj 1 (tX f n E (by2 f p)) k))), (11, .int (nI k))], [.int (nI (eqN (tX f n E (by2 f p)) (ltx (15 + k))))], M1) _
              refine ps_if (S1 := (134, [(0, .ref m0), (2, .int 1), (3, .int (nI x)), (4, .int (nI (by2 f p1))), (5, .int (nI p)), (6, .int (nI s3)), (7, .int (nI i)), (8, .int (nI (by4 f (p + 2)))), (9, .int (nI t)), (10, .int (gI (kb mj 1 (tX f n E (by2 f p)) k))), (11, .int (nI k))], [], M1)) (S2 := (130, [(0, .ref m0), (2, .int 1), (3, .int (nI x)), (4, .int (nI (by2 f p1))), (5, .int (nI p)), (6, .int (nI s3)), (7, .int (nI i)), (8, .int (nI (by4 f (p + 2)))), (9, .int (nI t)), (10, .int (gI (kb mj 1 (tX f n E (by2 f p)) k))), (11, .int (nI k))], [], M1)) rfl rfl rfl (fun c_127 => ?_) (fun c_127 => ?_)
              · have c_127 : (nI (eqN (tX f n E (by2 f p)) (ltx (15 + k)))) = 0 := of_decide_eq_true c_127
                have n_127 : eqN (tX f n E (by2 f p)) (ltx (15 + k)) = 0 := (eq_nI (p := eqN (tX f n E (by2 f p)) (ltx (15 + k))) (n := 0) (Nat.lt_trans (le1_eq _ _) (by decide)) (by decide)).mp c_127
                refine ps_st (S' := (137, [(11, .int ((nI k) + 1)), (0, .ref m0), (2, .int 1), (3, .int (nI x)), (4, .int (nI (by2 f p1))), (5, .int (nI p)), (6, .int (nI s3)), (7, .int (nI i)), (8, .int (nI (by4 f (p + 2)))), (9, .int (nI t)), (10, .int (gI (kb mj 1 (tX f n E (by2 f p)) k)))], [], M1)) rfl rfl rfl ?_
                rw [nI_add1 (p := k) (k := 1) (x := 1) rfl (by omega)]
                show pl _ _ _ (_, [(11, .int (nI (k + 1))), (0, .ref m0), (2, .int 1), (3, .int (nI x)), (4, .int (nI (by2 f p1))), (5, .int (nI p)), (6, .int (nI s3)), (7, .int (nI i)), (8, .int (nI (by4 f (p + 2)))), (9, .int (nI t)), (10, .int (gI (kb mj 1 (tX f n E (by2 f p)) k)))], [], M1) _
                refine ps_st (S' := (79, [(0, .ref m0), (2, .int 1), (3, .int (nI x)), (4, .int (nI (by2 f p1))), (5, .int (nI p)), (6, .int (nI s3)), (7, .int (nI i)), (8, .int (nI (by4 f (p + 2)))), (9, .int (nI t)), (10, .int (gI (kb mj 1 (tX f n E (by2 f p)) k))), (11, .int (nI (k + 1)))], [], M1)) rfl rfl rfl ?_
                have hkb : (gI (kb mj 1 (tX f n E (by2 f p)) k)) = gI (kb mj 1 (tX f n E (by2 f p)) (k + 1)) := by
                  conv => rhs; unfold kb
                  rw [if_neg (by omega)]
                rw [hkb]
                exact ih.2 (i) (p) (s2) (s3) (k + 1) (t) M1 I1 R1 hR1 hEI1 hER1 hl51 hl52 hl53 hF1 hY1 hP1 hK1 hX1 (hi0) (hl) (hb) (ha) (hs9) (by omega) (h1) (hsy)
              · have c_127 : ¬ ((nI (eqN (tX f n E (by2 f p)) (ltx (15 + k)))) = 0) := of_decide_eq_false c_127
                have n_127 : ¬ (eqN (tX f n E (by2 f p)) (ltx (15 + k)) = 0) := fun h9 => c_127 ((eq_nI (p := eqN (tX f n E (by2 f p)) (ltx (15 + k))) (n := 0) (Nat.lt_trans (le1_eq _ _) (by decide)) (by decide)).mpr h9)
                refine ps_st (S' := (132, [(0, .ref m0), (2, .int 1), (3, .int (nI x)), (4, .int (nI (by2 f p1))), (5, .int (nI p)), (6, .int (nI s3)), (7, .int (nI i)), (8, .int (nI (by4 f (p + 2)))), (9, .int (nI t)), (10, .int (gI (kb mj 1 (tX f n E (by2 f p)) k))), (11, .int (nI k))], [.int (nI k)], M1)) rfl rfl rfl ?_
                refine ps_st (S' := (134, [(0, .ref m0), (2, .int 1), (3, .int (nI x)), (4, .int (nI (by2 f p1))), (5, .int (nI p)), (6, .int (nI s3)), (7, .int (nI i)), (8, .int (nI (by4 f (p + 2)))), (9, .int (nI t)), (10, .int (nI k)), (11, .int (nI k))], [], M1)) rfl rfl rfl ?_
                refine ps_st (S' := (137, [(11, .int ((nI k) + 1)), (0, .ref m0), (2, .int 1), (3, .int (nI x)), (4, .int (nI (by2 f p1))), (5, .int (nI p)), (6, .int (nI s3)), (7, .int (nI i)), (8, .int (nI (by4 f (p + 2)))), (9, .int (nI t)), (10, .int (nI k))], [], M1)) rfl rfl rfl ?_
                rw [nI_add1 (p := k) (k := 1) (x := 1) rfl (by omega)]
                show pl _ _ _ (_, [(11, .int (nI (k + 1))), (0, .ref m0), (2, .int 1), (3, .int (nI x)), (4, .int (nI (by2 f p1))), (5, .int (nI p)), (6, .int (nI s3)), (7, .int (nI i)), (8, .int (nI (by4 f (p + 2)))), (9, .int (nI t)), (10, .int (nI k))], [], M1) _
                refine ps_st (S' := (79, [(0, .ref m0), (2, .int 1), (3, .int (nI x)), (4, .int (nI (by2 f p1))), (5, .int (nI p)), (6, .int (nI s3)), (7, .int (nI i)), (8, .int (nI (by4 f (p + 2)))), (9, .int (nI t)), (10, .int (nI k)), (11, .int (nI (k + 1)))], [], M1)) rfl rfl rfl ?_
                have hkb : (nI k) = gI (kb mj 1 (tX f n E (by2 f p)) (k + 1)) := by
                  conv => rhs; unfold kb
                  rw [if_pos ⟨by omega, by omega, by omega⟩]
                  rfl
                rw [hkb]
                exact ih.2 (i) (p) (s2) (s3) (k + 1) (t) M1 I1 R1 hR1 hEI1 hER1 hl51 hl52 hl53 hF1 hY1 hP1 hK1 hX1 (hi0) (hl) (hb) (ha) (hs9) (by omega) (h1) (hsy)
  refine ps_st (S' := (1, [(0, .ref m0), (1, .int (nI p1)), (2, .int 1), (3, .int (nI x))], [.ref m0], M)) rfl rfl rfl ?_
  refine ps_st (S' := (2, [(0, .ref m0), (1, .int (nI p1)), (2, .int 1), (3, .int (nI x))], [.int (nI p1), .ref m0], M)) rfl rfl rfl ?_
  refine pl_call (a := [.ref m0, .int (nI p1)]) (rest := []) rfl rfl rfl (rd_u2 (n := n) (f := f) (p := p1) hR hF (by omega)) (fun v158 M159 q160 => ?_)
  obtain ⟨rfl, rfl⟩ := q160
  show pl _ _ _ (5, [(0, .ref m0), (1, .int (nI p1)), (2, .int 1), (3, .int (nI x))], [.int (nI (by2 f p1))], M) _
  have hu_2 := by2_lt f p1
  refine ps_st (S' := (7, [(4, .int (nI (by2 f p1))), (0, .ref m0), (1, .int (nI p1)), (2, .int 1), (3, .int (nI x))], [], M)) rfl rfl rfl ?_
  refine ps_st (S' := (8, [(4, .int (nI (by2 f p1))), (0, .ref m0), (1, .int (nI p1)), (2, .int 1), (3, .int (nI x))], [.int (nI p1)], M)) rfl rfl rfl ?_
  refine ps_st (S' := (9, [(4, .int (nI (by2 f p1))), (0, .ref m0), (1, .int (nI p1)), (2, .int 1), (3, .int (nI x))], [.int 2, .int (nI p1)], M)) rfl rfl rfl ?_
  refine ps_st (S' := (10, [(4, .int (nI (by2 f p1))), (0, .ref m0), (1, .int (nI p1)), (2, .int 1), (3, .int (nI x))], [.int ((nI p1) + 2)], M)) rfl rfl rfl ?_
  rw [nI_add1 (p := p1) (k := 2) (x := 2) rfl (by omega)]
  show pl _ _ _ (_, [(4, .int (nI (by2 f p1))), (0, .ref m0), (1, .int (nI p1)), (2, .int 1), (3, .int (nI x))], [.int (nI (p1 + 2))], M) _
  refine ps_st (S' := (12, [(5, .int (nI (p1 + 2))), (4, .int (nI (by2 f p1))), (0, .ref m0), (1, .int (nI p1)), (2, .int 1), (3, .int (nI x))], [], M)) rfl rfl rfl ?_
  refine ps_st (S' := (13, [(5, .int (nI (p1 + 2))), (4, .int (nI (by2 f p1))), (0, .ref m0), (1, .int (nI p1)), (2, .int 1), (3, .int (nI x))], [.int 0], M)) rfl rfl rfl ?_
  refine ps_st (S' := (15, [(6, .int 0), (5, .int (nI (p1 + 2))), (4, .int (nI (by2 f p1))), (0, .ref m0), (1, .int (nI p1)), (2, .int 1), (3, .int (nI x))], [], M)) rfl rfl rfl ?_
  refine ps_st (S' := (16, [(6, .int 0), (5, .int (nI (p1 + 2))), (4, .int (nI (by2 f p1))), (0, .ref m0), (1, .int (nI p1)), (2, .int 1), (3, .int (nI x))], [.int 0], M)) rfl rfl rfl ?_
  refine ps_st (S' := (18, [(0, .ref m0), (2, .int 1), (3, .int (nI x)), (4, .int (nI (by2 f p1))), (5, .int (nI (p1 + 2))), (6, .int 0), (7, .int 0)], [], M)) rfl rfl rfl ?_
  exact (LL kf).1 (0) (p1 + 2) (0) (0) M I R hR hEI hER hi51 hi52 hi53 hF hY hP hK hX (by omega) (by decide) (rfl) (hat) (rfl)
