section
/-! a field's attributes, as the reference checks them (laid by wip/p4/e14.py) -/

theorem lt_15 : ltx 15 = ltx 0 := by decide +kernel
theorem kb_1 {mj : Nat} {l : List Nat} : kb mj 1 l 10 = if ¬ eqN l (ltx 15) = 0 then some 0 else none := by
  simp only [kb, kiN, kfN]
  simp
theorem has_9 {x w : Nat} : hasN x w = 0 ↔ aN x w = 0 := by
  unfold hasN
  split <;> omega
def FX (fl ds x : Nat) (I : rI) (R : rR) : Prop := R 27 x = some (nI fl) ∧ R 29 x = some (nI ds)
theorem FX.mono {fl ds x : Nat} {I I' : rI} {R R' : rR} (h : FX fl ds x I R) (hI : ∀ k, k ∈ ([] : List Nat) → I' k = I k) (hR : ∀ k, k ∈ [27, 29] → R' k = R k) : FX fl ds x I' R' := by
  unfold FX
  rw [hR 27 (by decide), hR 29 (by decide)]
  exact h
def MX (fl ds x : Nat) (I : rI) (R : rR) : Prop := R 34 x = some (nI fl) ∧ R 36 x = some (nI ds)
theorem MX.mono {fl ds x : Nat} {I I' : rI} {R R' : rR} (h : MX fl ds x I R) (hI : ∀ k, k ∈ ([] : List Nat) → I' k = I k) (hR : ∀ k, k ∈ [34, 36] → R' k = R k) : MX fl ds x I' R' := by
  unfold MX
  rw [hR 34 (by decide), hR 36 (by decide)]
  exact h
section FAS
variable {f : Nat → Int32} {n : Nat} {E : List (Nat × Nat)} {x c i p s : Nat} {d : List Nat}
theorem faS_28 (h : i < c) (ht : ¬ tg f E (by2 f p) = 1) : faS f n E x d (c - i) p s = some (28, p) := by
  rw [faS_st h, show nwS f E s (fkN f n E (by2 f p)) p = .inl (28, p) by unfold nwS; rw [if_pos ht]]
theorem faS_29 (h : i < c) (ht : tg f E (by2 f p) = 1) (hk : fkN f n E (by2 f p) = 1) (hs : ¬ sb s 1 = 0) : faS f n E x d (c - i) p s = some (29, p) := by
  rw [faS_st h, hk, show nwS f E s 1 p = .inl (29, p) by unfold nwS; rw [if_neg (fun h9 => h9 ht), if_neg (by decide), if_pos hs]]
theorem faS_u (h : i < c) (ht : tg f E (by2 f p) = 1) (hk : fkN f n E (by2 f p) = 0) : faS f n E x d (c - i) p s = faS f n E x d (c - (i + 1)) (p + 6 + by4 f (p + 2)) s := by
  rw [faS_st h, show nwS f E s (fkN f n E (by2 f p)) p = .inr s by unfold nwS; rw [if_neg (fun h9 => h9 ht), if_pos hk]]
  dsimp only
  rw [if_neg (fun h9 => h9.1 hk), if_neg (fun h9 => h9.1 hk)]
theorem faS_k (h : i < c) (ht : tg f E (by2 f p) = 1) (hk : fkN f n E (by2 f p) = 1) (hs : sb s 1 = 0) : faS f n E x d (c - i) p s = if ¬ s_fe f 1 (p + 6) (p + 6 + by4 f (p + 2)) = some (p + 6 + by4 f (p + 2)) then some (30, p) else if ¬ hasN x 8 = 0 ∧ ¬ ctS d = some (tg f E (by2 f (p + 6))) then some (31, p) else faS f n E x d (c - (i + 1)) (p + 6 + by4 f (p + 2)) (so s 1) := by
  rw [faS_st h, hk, show nwS f E s 1 p = .inr (so s 1) by unfold nwS; rw [if_neg (fun h9 => h9 ht), if_neg (by decide), if_neg (fun h9 => h9 hs)]]
  simp only [Nat.one_ne_zero, not_false_eq_true, true_and]
end FAS
set_option maxHeartbeats 4000000 in
theorem rd_checkAttributes1 {g : xe_G} {m0 : Nat} {q : Nat → Nat} {z : Nat × Nat} {I : rI} {R : rR} {M : mi_H} {n : Nat} {f : Nat → Int32} {tx : List (List Nat)} {cN : Nat} {A : Nat → Nat} {N mj : Nat} {E : List (Nat × Nat)} {p1 e x fl ds : Nat} {l : List Nat} (hR : RS g m0 q z I R M) (hi51 : I 51 = some 0) (hi52 : I 52 = some (nI N)) (hi53 : I 53 = some (nI mj)) (hF : FK n f I R) (hY : SYT tx cN A I R) (hP : RPV f n E tx N I R) (hK : KX I R) (hX : FX fl ds x I R) (hEP : EP f n E) (hN : N < 65536) (hmj : mj < 65536) (hin : p1 + 2 ≤ e ∧ e ≤ n) (hat : s_atE f e (by2 f p1) (p1 + 2) = some e) (hx : x < 8300) (hdt : ds < tx.length ∧ tx.getD ds [] = l) (hfd : ¬ fldN l = 0) (hf6 : fl < 65536) : pt (mT g) 187 [.ref m0, .int (nI p1), .int 1, .int (nI x)] M (fun v M' => (∃ (e9 : Nat × Nat) (I' : rI) (R' : rR), (faS f n E fl l (by2 f p1) (p1 + 2) 0 = some e9) ∧ v = some (.int (-1)) ∧ RS g m0 q z I' R' M' ∧ eqI [47, 48] I I' ∧ eqR [30, 31] R R' ∧ I' 47 = some (nI e9.1) ∧ I' 48 = some (nI e9.2)) ∨ (∃  (I' : rI) (R' : rR), (faS f n E fl l (by2 f p1) (p1 + 2) 0 = none) ∧ v = some (.int (nI e)) ∧ RS g m0 q z I' R' M' ∧ eqI [47, 48] I I' ∧ eqR [30, 31] R R')) := by
  refine pt_in (b := mb_187 g) rfl (fun kf => ?_)
  show pl (mT g) kf (mb_187 g).2 (0, [(0, .ref m0), (1, .int (nI p1)), (2, .int 1), (3, .int (nI x))], [], M) _
  have hEI : eqI [47, 48] I I := eqI.rf
  have hER : eqR [30, 31] R R := eqR.rf
  have hn := hF.1
  have LL : ∀ (kf : Nat), (∀ (i p s2 s3 : Nat) (M1 : mi_H) (I1 : rI) (R1 : rR), (RS g m0 q z I1 R1 M1) → (eqI [47, 48] I I1) → (eqR [30, 31] R R1) → (I1 51 = some 0) → (I1 52 = some (nI N)) → (I1 53 = some (nI mj)) → (FK n f I1 R1) → (SYT tx cN A I1 R1) → (RPV f n E tx N I1 R1) → (KX I1 R1) → (FX fl ds x I1 R1) → (i ≤ by2 f p1) → (s3 < 2048) → (sb s3 0 = sb s2 1) → (s_atE f e (by2 f p1 - i) p = some e) → (faS f n E fl l (by2 f p1 - i) p s2 = faS f n E fl l (by2 f p1) (p1 + 2) 0) →  pl (mT g) kf (mb_187 g).2 (18, [(0, .ref m0), (2, .int 1), (3, .int (nI x)), (4, .int (nI (by2 f p1))), (5, .int (nI p)), (6, .int (nI s3)), (7, .int (nI i))], [], M1) (fun v M' => (∃ (e9 : Nat × Nat) (I' : rI) (R' : rR), (faS f n E fl l (by2 f p1) (p1 + 2) 0 = some e9) ∧ v = some (.int (-1)) ∧ RS g m0 q z I' R' M' ∧ eqI [47, 48] I I' ∧ eqR [30, 31] R R' ∧ I' 47 = some (nI e9.1) ∧ I' 48 = some (nI e9.2)) ∨ (∃  (I' : rI) (R' : rR), (faS f n E fl l (by2 f p1) (p1 + 2) 0 = none) ∧ v = some (.int (nI e)) ∧ RS g m0 q z I' R' M' ∧ eqI [47, 48] I I' ∧ eqR [30, 31] R R'))) ∧ (∀ (i p s2 s3 k t : Nat) (M1 : mi_H) (I1 : rI) (R1 : rR), (RS g m0 q z I1 R1 M1) → (eqI [47, 48] I I1) → (eqR [30, 31] R R1) → (I1 51 = some 0) → (I1 52 = some (nI N)) → (I1 53 = some (nI mj)) → (FK n f I1 R1) → (SYT tx cN A I1 R1) → (RPV f n E tx N I1 R1) → (KX I1 R1) → (FX fl ds x I1 R1) → (i < by2 f p1) → (s3 < 2048) → (sb s3 0 = sb s2 1) → (s_atE f e (by2 f p1 - i) p = some e) → (faS f n E fl l (by2 f p1 - i) p s2 = faS f n E fl l (by2 f p1) (p1 + 2) 0) → (k ≤ 10) → (tg f E (by2 f p) = 1) → (t < tx.length ∧ tx.getD t [] = tX f n E (by2 f p)) →  pl (mT g) kf (mb_187 g).2 (79, [(0, .ref m0), (2, .int 1), (3, .int (nI x)), (4, .int (nI (by2 f p1))), (5, .int (nI p)), (6, .int (nI s3)), (7, .int (nI i)), (8, .int (nI (by4 f (p + 2)))), (9, .int (nI t)), (10, .int (gI (kb mj 1 (tX f n E (by2 f p)) k))), (11, .int (nI k))], [], M1) (fun v M' => (∃ (e9 : Nat × Nat) (I' : rI) (R' : rR), (faS f n E fl l (by2 f p1) (p1 + 2) 0 = some e9) ∧ v = some (.int (-1)) ∧ RS g m0 q z I' R' M' ∧ eqI [47, 48] I I' ∧ eqR [30, 31] R R' ∧ I' 47 = some (nI e9.1) ∧ I' 48 = some (nI e9.2)) ∨ (∃  (I' : rI) (R' : rR), (faS f n E fl l (by2 f p1) (p1 + 2) 0 = none) ∧ v = some (.int (nI e)) ∧ RS g m0 q z I' R' M' ∧ eqI [47, 48] I I' ∧ eqR [30, 31] R R'))) := by
    intro kf
    induction kf with
    | zero => exact ⟨by intros; exact pl_0, by intros; exact pl_0⟩
    | succ kf ih =>
      refine ⟨?_, ?_⟩
      · skip
        intro i p s2 s3 M1 I1 R1 hR1 hEI1 hER1 hl51 hl52 hl53 hF1 hY1 hP1 hK1 hX1 hi hl hb ha hs9
        have hn := hF1.1
        have hu9 := by2_lt f p1
        have htl := hY1.1.2.2.1
        refine ps_st1 (S' := (20, [(0, .ref m0), (2, .int 1), (3, .int (nI x)), (4, .int (nI (by2 f p1))), (5, .int (nI p)), (6, .int (nI s3)), (7, .int (nI i))], [.int (nI i)], M1)) rfl rfl rfl ?_
        refine ps_st (S' := (22, [(0, .ref m0), (2, .int 1), (3, .int (nI x)), (4, .int (nI (by2 f p1))), (5, .int (nI p)), (6, .int (nI s3)), (7, .int (nI i))], [.int (nI (by2 f p1)), .int (nI i)], M1)) rfl rfl rfl ?_
        refine ps_if2 (S1 := (284, [(0, .ref m0), (2, .int 1), (3, .int (nI x)), (4, .int (nI (by2 f p1))), (5, .int (nI p)), (6, .int (nI s3)), (7, .int (nI i))], [], M1)) (S2 := (25, [(0, .ref m0), (2, .int 1), (3, .int (nI x)), (4, .int (nI (by2 f p1))), (5, .int (nI p)), (6, .int (nI s3)), (7, .int (nI i))], [], M1)) rfl rfl rfl (fun c_22 => ?_) (fun c_22 => ?_)
        · have c_22 : (nI (by2 f p1)) ≤ (nI i) := of_decide_eq_true c_22
          have n_22 : by2 f p1 ≤ i := (le_nI (p := by2 f p1) (n := i) (Nat.lt_trans (by2_lt _ _) (by decide)) (by omega)).mp c_22
          refine ps_st (S' := (286, [(0, .ref m0), (2, .int 1), (3, .int (nI x)), (4, .int (nI (by2 f p1))), (5, .int (nI p)), (6, .int (nI s3)), (7, .int (nI i))], [.int (nI p)], M1)) rfl rfl rfl ?_
          exact ps_reti rfl (Or.inr ⟨I1, R1, by rw [← hs9, show by2 f p1 - i = 0 by omega]; rfl, by rw [show e = p by (rw [show by2 f p1 - i = 0 by omega] at ha; exact (Option.some.inj ha).symm)], hR1, hEI1, hER1⟩)
        · have c_22 : ¬ ((nI (by2 f p1)) ≤ (nI i)) := of_decide_eq_false c_22
          have n_22 : ¬ (by2 f p1 ≤ i) := fun h9 => c_22 ((le_nI (p := by2 f p1) (n := i) (Nat.lt_trans (by2_lt _ _) (by decide)) (by omega)).mpr h9)
          obtain ⟨hq5, hq6, hq7⟩ := s_atE_in (i := i) (p := p) ha (by omega)
          refine ps_st (S' := (26, [(0, .ref m0), (2, .int 1), (3, .int (nI x)), (4, .int (nI (by2 f p1))), (5, .int (nI p)), (6, .int (nI s3)), (7, .int (nI i))], [.ref m0], M1)) rfl rfl rfl ?_
          refine ps_st (S' := (28, [(0, .ref m0), (2, .int 1), (3, .int (nI x)), (4, .int (nI (by2 f p1))), (5, .int (nI p)), (6, .int (nI s3)), (7, .int (nI i))], [.int (nI p), .ref m0], M1)) rfl rfl rfl ?_
          refine ps_st (S' := (29, [(0, .ref m0), (2, .int 1), (3, .int (nI x)), (4, .int (nI (by2 f p1))), (5, .int (nI p)), (6, .int (nI s3)), (7, .int (nI i))], [.int 2, .int (nI p), .ref m0], M1)) rfl rfl rfl ?_
          refine ps_st (S' := (30, [(0, .ref m0), (2, .int 1), (3, .int (nI x)), (4, .int (nI (by2 f p1))), (5, .int (nI p)), (6, .int (nI s3)), (7, .int (nI i))], [.int ((nI p) + 2), .ref m0], M1)) rfl rfl rfl ?_
          rw [nI_add1 (p := p) (k := 2) (x := 2) rfl (by omega)]
          show pl _ _ _ (_, [(0, .ref m0), (2, .int 1), (3, .int (nI x)), (4, .int (nI (by2 f p1))), (5, .int (nI p)), (6, .int (nI s3)), (7, .int (nI i))], [.int (nI (p + 2)), .ref m0], M1) _
          refine pl_call (a := [.ref m0, .int (nI (p + 2))]) (rest := []) rfl rfl rfl (rd_u4 (n := n) (f := f) (p := (p + 2)) hR1 hF1 (by omega)) (fun v1 M2 q3 => ?_)
          obtain ⟨rfl, rfl⟩ := q3
          show pl _ _ _ (33, [(0, .ref m0), (2, .int 1), (3, .int (nI x)), (4, .int (nI (by2 f p1))), (5, .int (nI p)), (6, .int (nI s3)), (7, .int (nI i))], [.long (nL (by4 f (p + 2)))], M1) _
          have hu_30 := by4_lt f (p + 2)
          refine ps_st (S' := (34, [(0, .ref m0), (2, .int 1), (3, .int (nI x)), (4, .int (nI (by2 f p1))), (5, .int (nI p)), (6, .int (nI s3)), (7, .int (nI i))], [.int (Int64.toInt32 (nL (by4 f (p + 2))))], M1)) rfl rfl rfl ?_
          rw [l2i_nL (p := by4 f (p + 2)) (by omega)]
          show pl _ _ _ (_, [(0, .ref m0), (2, .int 1), (3, .int (nI x)), (4, .int (nI (by2 f p1))), (5, .int (nI p)), (6, .int (nI s3)), (7, .int (nI i))], [.int (nI (by4 f (p + 2)))], M1) _
          refine ps_st (S' := (36, [(8, .int (nI (by4 f (p + 2)))), (0, .ref m0), (2, .int 1), (3, .int (nI x)), (4, .int (nI (by2 f p1))), (5, .int (nI p)), (6, .int (nI s3)), (7, .int (nI i))], [], M1)) rfl rfl rfl ?_
          refine ps_st (S' := (37, [(8, .int (nI (by4 f (p + 2)))), (0, .ref m0), (2, .int 1), (3, .int (nI x)), (4, .int (nI (by2 f p1))), (5, .int (nI p)), (6, .int (nI s3)), (7, .int (nI i))], [.ref m0], M1)) rfl rfl rfl ?_
          refine ps_st (S' := (38, [(8, .int (nI (by4 f (p + 2)))), (0, .ref m0), (2, .int 1), (3, .int (nI x)), (4, .int (nI (by2 f p1))), (5, .int (nI p)), (6, .int (nI s3)), (7, .int (nI i))], [.ref m0, .ref m0], M1)) rfl rfl rfl ?_
          refine ps_st (S' := (40, [(8, .int (nI (by4 f (p + 2)))), (0, .ref m0), (2, .int 1), (3, .int (nI x)), (4, .int (nI (by2 f p1))), (5, .int (nI p)), (6, .int (nI s3)), (7, .int (nI i))], [.int (nI p), .ref m0, .ref m0], M1)) rfl rfl rfl ?_
          refine pl_call (a := [.ref m0, .int (nI p)]) (rest := [.ref m0]) rfl rfl rfl (rd_u2 (n := n) (f := f) (p := p) hR1 hF1 (by omega)) (fun v4 M5 q6 => ?_)
          obtain ⟨rfl, rfl⟩ := q6
          show pl _ _ _ (43, [(8, .int (nI (by4 f (p + 2)))), (0, .ref m0), (2, .int 1), (3, .int (nI x)), (4, .int (nI (by2 f p1))), (5, .int (nI p)), (6, .int (nI s3)), (7, .int (nI i))], [.int (nI (by2 f p)), .ref m0], M1) _
          have hu_40 := by2_lt f p
          refine pl_call (a := [.ref m0, .int (nI (by2 f p))]) (rest := []) rfl rfl rfl (rd_tag (n := n) (f := f) (tx := tx) (cN := cN) (A := A) (N := N) (mj := mj) (E := E) (k := (by2 f p)) hR1 hl51 hl52 hl53 hF1 hY1 hP1 (hEP) (hN) (hmj) (by2_lt _ _)) (fun v7 M8 q9 => ?_)
          obtain ⟨rfl, rfl⟩ := q9
          show pl _ _ _ (46, [(8, .int (nI (by4 f (p + 2)))), (0, .ref m0), (2, .int 1), (3, .int (nI x)), (4, .int (nI (by2 f p1))), (5, .int (nI p)), (6, .int (nI s3)), (7, .int (nI i))], [.int (nI (tg f E (by2 f p)))], M1) _
          have htg_43 := tg_lt f E (by2 f p)
          refine ps_st (S' := (47, [(8, .int (nI (by4 f (p + 2)))), (0, .ref m0), (2, .int 1), (3, .int (nI x)), (4, .int (nI (by2 f p1))), (5, .int (nI p)), (6, .int (nI s3)), (7, .int (nI i))], [.int 1, .int (nI (tg f E (by2 f p)))], M1)) rfl rfl rfl ?_
          refine ps_if2 (S1 := (61, [(8, .int (nI (by4 f (p + 2)))), (0, .ref m0), (2, .int 1), (3, .int (nI x)), (4, .int (nI (by2 f p1))), (5, .int (nI p)), (6, .int (nI s3)), (7, .int (nI i))], [], M1)) (S2 := (50, [(8, .int (nI (by4 f (p + 2)))), (0, .ref m0), (2, .int 1), (3, .int (nI x)), (4, .int (nI (by2 f p1))), (5, .int (nI p)), (6, .int (nI s3)), (7, .int (nI i))], [], M1)) rfl rfl rfl (fun c_47 => ?_) (fun c_47 => ?_)
          · have c_47 : (nI (tg f E (by2 f p))) = 1 := of_decide_eq_true c_47
            have n_47 : tg f E (by2 f p) = 1 := (eq_nI (p := tg f E (by2 f p)) (n := 1) (Nat.lt_trans (tg_lt _ _ _) (by decide)) (by decide)).mp c_47
            refine ps_st (S' := (62, [(8, .int (nI (by4 f (p + 2)))), (0, .ref m0), (2, .int 1), (3, .int (nI x)), (4, .int (nI (by2 f p1))), (5, .int (nI p)), (6, .int (nI s3)), (7, .int (nI i))], [.ref m0], M1)) rfl rfl rfl ?_
            refine ps_st (S' := (63, [(8, .int (nI (by4 f (p + 2)))), (0, .ref m0), (2, .int 1), (3, .int (nI x)), (4, .int (nI (by2 f p1))), (5, .int (nI p)), (6, .int (nI s3)), (7, .int (nI i))], [.ref m0, .ref m0], M1)) rfl rfl rfl ?_
            refine ps_st (S' := (65, [(8, .int (nI (by4 f (p + 2)))), (0, .ref m0), (2, .int 1), (3, .int (nI x)), (4, .int (nI (by2 f p1))), (5, .int (nI p)), (6, .int (nI s3)), (7, .int (nI i))], [.int (nI p), .ref m0, .ref m0], M1)) rfl rfl rfl ?_
            refine pl_call (a := [.ref m0, .int (nI p)]) (rest := [.ref m0]) rfl rfl rfl (rd_u2 (n := n) (f := f) (p := p) hR1 hF1 (by omega)) (fun v10 M11 q12 => ?_)
            obtain ⟨rfl, rfl⟩ := q12
            show pl _ _ _ (68, [(8, .int (nI (by4 f (p + 2)))), (0, .ref m0), (2, .int 1), (3, .int (nI x)), (4, .int (nI (by2 f p1))), (5, .int (nI p)), (6, .int (nI s3)), (7, .int (nI i))], [.int (nI (by2 f p)), .ref m0], M1) _
            have hu_65 := by2_lt f p
            refine pl_call (a := [.ref m0, .int (nI (by2 f p))]) (rest := []) rfl rfl rfl (rd_symOf (n := n) (f := f) (tx := tx) (cN := cN) (A := A) (N := N) (mj := mj) (E := E) (k := (by2 f p)) hR1 hl51 hl52 hl53 hF1 hY1 hP1 (hEP) (hN) (hmj) (by omega)) (fun v13 M14 q15 => ?_)
            obtain ⟨s16, q68_s, rfl, rfl⟩ := q15
            show pl _ _ _ (71, [(8, .int (nI (by4 f (p + 2)))), (0, .ref m0), (2, .int 1), (3, .int (nI x)), (4, .int (nI (by2 f p1))), (5, .int (nI p)), (6, .int (nI s3)), (7, .int (nI i))], [.int (nI s16)], M1) _
            have hsl_68 := q68_s.1
            have htl_68 := hY1.1.2.2.1
            refine ps_st (S' := (73, [(9, .int (nI s16)), (8, .int (nI (by4 f (p + 2)))), (0, .ref m0), (2, .int 1), (3, .int (nI x)), (4, .int (nI (by2 f p1))), (5, .int (nI p)), (6, .int (nI s3)), (7, .int (nI i))], [], M1)) rfl rfl rfl ?_
            refine ps_st (S' := (74, [(9, .int (nI s16)), (8, .int (nI (by4 f (p + 2)))), (0, .ref m0), (2, .int 1), (3, .int (nI x)), (4, .int (nI (by2 f p1))), (5, .int (nI p)), (6, .int (nI s3)), (7, .int (nI i))], [.int (-1)], M1)) rfl rfl rfl ?_
            refine ps_st (S' := (76, [(10, .int (-1)), (9, .int (nI s16)), (8, .int (nI (by4 f (p + 2)))), (0, .ref m0), (2, .int 1), (3, .int (nI x)), (4, .int (nI (by2 f p1))), (5, .int (nI p)), (6, .int (nI s3)), (7, .int (nI i))], [], M1)) rfl rfl rfl ?_
            refine ps_st (S' := (77, [(10, .int (-1)), (9, .int (nI s16)), (8, .int (nI (by4 f (p + 2)))), (0, .ref m0), (2, .int 1), (3, .int (nI x)), (4, .int (nI (by2 f p1))), (5, .int (nI p)), (6, .int (nI s3)), (7, .int (nI i))], [.int 0], M1)) rfl rfl rfl ?_
            refine ps_st (S' := (79, [(0, .ref m0), (2, .int 1), (3, .int (nI x)), (4, .int (nI (by2 f p1))), (5, .int (nI p)), (6, .int (nI s3)), (7, .int (nI i)), (8, .int (nI (by4 f (p + 2)))), (9, .int (nI s16)), (10, .int (-1)), (11, .int 0)], [], M1)) rfl rfl rfl ?_
            exact ih.2 (i) (p) (s2) (s3) (0) (s16) M1 I1 R1 hR1 hEI1 hER1 hl51 hl52 hl53 hF1 hY1 hP1 hK1 hX1 (by omega) (hl) (hb) (ha) (hs9) (by omega) (by omega) (q68_s)
          · have c_47 : ¬ ((nI (tg f E (by2 f p))) = 1) := of_decide_eq_false c_47
            have n_47 : ¬ (tg f E (by2 f p) = 1) := fun h9 => c_47 ((eq_nI (p := tg f E (by2 f p)) (n := 1) (Nat.lt_trans (tg_lt _ _ _) (by decide)) (by decide)).mpr h9)
            refine ps_st (S' := (51, [(8, .int (nI (by4 f (p + 2)))), (0, .ref m0), (2, .int 1), (3, .int (nI x)), (4, .int (nI (by2 f p1))), (5, .int (nI p)), (6, .int (nI s3)), (7, .int (nI i))], [.ref m0], M1)) rfl rfl rfl ?_
            refine ps_st (S' := (53, [(8, .int (nI (by4 f (p + 2)))), (0, .ref m0), (2, .int 1), (3, .int (nI x)), (4, .int (nI (by2 f p1))), (5, .int (nI p)), (6, .int (nI s3)), (7, .int (nI i))], [.int 28, .ref m0], M1)) rfl rfl rfl ?_
            refine ps_st (S' := (55, [(8, .int (nI (by4 f (p + 2)))), (0, .ref m0), (2, .int 1), (3, .int (nI x)), (4, .int (nI (by2 f p1))), (5, .int (nI p)), (6, .int (nI s3)), (7, .int (nI i))], [.int (nI p), .int 28, .ref m0], M1)) rfl rfl rfl ?_
            refine pl_call (a := [.ref m0, .int 28, .int (nI p)]) (rest := []) rfl rfl rfl (rd_wrong (x1 := 28) (x2 := (nI p)) hR1) (fun v17 M18 q19 => ?_)
            obtain ⟨I20, R21, rfl, hR22, hI23, hX24, hi25, hi26⟩ := q19
            have hi27 := (hI23 51 (by decide)).trans hl51
            have hi28 := (hI23 52 (by decide)).trans hl52
            have hi29 := (hI23 53 (by decide)).trans hl53
            have hF_30 := hF1.mono (cIx hI23 (by decide)) (cRx hX24 (by decide))
            have hY_31 := hY1.mono (cIx hI23 (by decide)) (cRx hX24 (by decide))
            have hP_32 := hP1.mono (cIx hI23 (by decide)) (cRx hX24 (by decide))
            have hK_33 := hK1.mono (cIx hI23 (by decide)) (cRx hX24 (by decide))
            have hX_34 := hX1.mono (cIx hI23 (by decide)) (cRx hX24 (by decide))
            have hEI35 := hEI1.tr hI23 (by decide)
            have hER36 := hER1.tr hX24 (by decide)
            show pl _ _ _ (58, [(8, .int (nI (by4 f (p + 2)))), (0, .ref m0), (2, .int 1), (3, .int (nI x)), (4, .int (nI (by2 f p1))), (5, .int (nI p)), (6, .int (nI s3)), (7, .int (nI i))], [.int 0], M18) _
            refine ps_st (S' := (59, [(8, .int (nI (by4 f (p + 2)))), (0, .ref m0), (2, .int 1), (3, .int (nI x)), (4, .int (nI (by2 f p1))), (5, .int (nI p)), (6, .int (nI s3)), (7, .int (nI i))], [], M18)) rfl rfl rfl ?_
            refine ps_st (S' := (60, [(8, .int (nI (by4 f (p + 2)))), (0, .ref m0), (2, .int 1), (3, .int (nI x)), (4, .int (nI (by2 f p1))), (5, .int (nI p)), (6, .int (nI s3)), (7, .int (nI i))], [.int (-1)], M18)) rfl rfl rfl ?_
            exact ps_ret rfl rfl (Or.inl ⟨(28, p), I20, R21, by
                rw [← hs9, faS_28 (i := i) (p := p) (s := s2) (by omega) (by omega)], rfl, hR22, hEI35, hER36, hi25, hi26⟩)
      · skip
        intro i p s2 s3 k t M1 I1 R1 hR1 hEI1 hER1 hl51 hl52 hl53 hF1 hY1 hP1 hK1 hX1 hi0 hl hb ha hs9 hk h1 hsy
        have hn := hF1.1
        have hu9 := by2_lt f p1
        have htl := hY1.1.2.2.1
        obtain ⟨hq5, hq6, hq7⟩ := s_atE_in (i := i) (p := p) ha hi0
        refine ps_st1 (S' := (81, [(0, .ref m0), (2, .int 1), (3, .int (nI x)), (4, .int (nI (by2 f p1))), (5, .int (nI p)), (6, .int (nI s3)), (7, .int (nI i)), (8, .int (nI (by4 f (p + 2)))), (9, .int (nI t)), (10, .int (gI (kb mj 1 (tX f n E (by2 f p)) k))), (11, .int (nI k))], [.int (nI k)], M1)) rfl rfl rfl ?_
        refine ps_st (S' := (82, [(0, .ref m0), (2, .int 1), (3, .int (nI x)), (4, .int (nI (by2 f p1))), (5, .int (nI p)), (6, .int (nI s3)), (7, .int (nI i)), (8, .int (nI (by4 f (p + 2)))), (9, .int (nI t)), (10, .int (gI (kb mj 1 (tX f n E (by2 f p)) k))), (11, .int (nI k))], [.ref m0, .int (nI k)], M1)) rfl rfl rfl ?_
        refine pr_ref (j := 62) (S' := (85, [(0, .ref m0), (2, .int 1), (3, .int (nI x)), (4, .int (nI (by2 f p1))), (5, .int (nI p)), (6, .int (nI s3)), (7, .int (nI i)), (8, .int (nI (by4 f (p + 2)))), (9, .int (nI t)), (10, .int (gI (kb mj 1 (tX f n E (by2 f p)) k))), (11, .int (nI k))], [.ref (q 62), .int (nI k)], M1)) rfl hR1 rfl rfl ?_
        refine pr_knl (S' := (86, [(0, .ref m0), (2, .int 1), (3, .int (nI x)), (4, .int (nI (by2 f p1))), (5, .int (nI p)), (6, .int (nI s3)), (7, .int (nI i)), (8, .int (nI (by4 f (p + 2)))), (9, .int (nI t)), (10, .int (gI (kb mj 1 (tX f n E (by2 f p)) k))), (11, .int (nI k))], [.int (nI 10), .int (nI k)], M1)) rfl hR1 rfl ?_
        refine ps_if2 (S1 := (140, [(0, .ref m0), (2, .int 1), (3, .int (nI x)), (4, .int (nI (by2 f p1))), (5, .int (nI p)), (6, .int (nI s3)), (7, .int (nI i)), (8, .int (nI (by4 f (p + 2)))), (9, .int (nI t)), (10, .int (gI (kb mj 1 (tX f n E (by2 f p)) k))), (11, .int (nI k))], [], M1)) (S2 := (89, [(0, .ref m0), (2, .int 1), (3, .int (nI x)), (4, .int (nI (by2 f p1))), (5, .int (nI p)), (6, .int (nI s3)), (7, .int (nI i)), (8, .int (nI (by4 f (p + 2)))), (9, .int (nI t)), (10, .int (gI (kb mj 1 (tX f n E (by2 f p)) k))), (11, .int (nI k))], [], M1)) rfl rfl rfl (fun c_86 => ?_) (fun c_86 => ?_)
        · have c_86 : (nI 10) ≤ (nI k) := of_decide_eq_true c_86
          have n_86 : 10 ≤ k := (le_nI (p := 10) (n := k) (by decide) (by omega)).mp c_86
          have ek : k = 10 := by omega
          have hkk := kb_1 (mj := mj) (l := tX f n E (by2 f p))
          refine ps_st (S' := (142, [(0, .ref m0), (2, .int 1), (3, .int (nI x)), (4, .int (nI (by2 f p1))), (5, .int (nI p)), (6, .int (nI s3)), (7, .int (nI i)), (8, .int (nI (by4 f (p + 2)))), (9, .int (nI t)), (10, .int (gI (kb mj 1 (tX f n E (by2 f p)) k))), (11, .int (nI k))], [.int (gI (kb mj 1 (tX f n E (by2 f p)) k))], M1)) rfl rfl rfl ?_
          refine ps_if (S1 := (268, [(0, .ref m0), (2, .int 1), (3, .int (nI x)), (4, .int (nI (by2 f p1))), (5, .int (nI p)), (6, .int (nI s3)), (7, .int (nI i)), (8, .int (nI (by4 f (p + 2))))], [], M1)) (S2 := (145, [(0, .ref m0), (2, .int 1), (3, .int (nI x)), (4, .int (nI (by2 f p1))), (5, .int (nI p)), (6, .int (nI s3)), (7, .int (nI i)), (8, .int (nI (by4 f (p + 2)))), (9, .int (nI t)), (10, .int (gI (kb mj 1 (tX f n E (by2 f p)) k))), (11, .int (nI k))], [], M1)) rfl rfl rfl (fun c_142 => ?_) (fun c_142 => ?_)
          · have c_142 : (gI (kb mj 1 (tX f n E (by2 f p)) k)) < 0 := of_decide_eq_true c_142
            have hc3 : ¬ (¬ eqN (tX f n E (by2 f p)) (ltx 15) = 0) := fun h9 => by
              rw [ek, hkk, if_pos h9] at c_142
              exact absurd c_142 (by decide)
            have hsm : fkN f n E (by2 f p) = 0 := by
              unfold fkN
              rw [← lt_15, if_pos (by omega)]
            refine ps_st (S' := (270, [(0, .ref m0), (2, .int 1), (3, .int (nI x)), (4, .int (nI (by2 f p1))), (5, .int (nI p)), (6, .int (nI s3)), (7, .int (nI i)), (8, .int (nI (by4 f (p + 2))))], [.int (nI p)], M1)) rfl rfl rfl ?_
            refine ps_st (S' := (272, [(0, .ref m0), (2, .int 1), (3, .int (nI x)), (4, .int (nI (by2 f p1))), (5, .int (nI p)), (6, .int (nI s3)), (7, .int (nI i)), (8, .int (nI (by4 f (p + 2))))], [.int 6, .int (nI p)], M1)) rfl rfl rfl ?_
            refine ps_st (S' := (274, [(0, .ref m0), (2, .int 1), (3, .int (nI x)), (4, .int (nI (by2 f p1))), (5, .int (nI p)), (6, .int (nI s3)), (7, .int (nI i)), (8, .int (nI (by4 f (p + 2))))], [.int (nI (by4 f (p + 2))), .int 6, .int (nI p)], M1)) rfl rfl rfl ?_
            refine ps_st (S' := (275, [(0, .ref m0), (2, .int 1), (3, .int (nI x)), (4, .int (nI (by2 f p1))), (5, .int (nI p)), (6, .int (nI s3)), (7, .int (nI i)), (8, .int (nI (by4 f (p + 2))))], [.int (6 + (nI (by4 f (p + 2)))), .int (nI p)], M1)) rfl rfl rfl ?_
            rw [nI_add2 (p := 6) (k := by4 f (p + 2)) (x := 6) (y := (nI (by4 f (p + 2)))) rfl rfl (by omega)]
            show pl _ _ _ (_, [(0, .ref m0), (2, .int 1), (3, .int (nI x)), (4, .int (nI (by2 f p1))), (5, .int (nI p)), (6, .int (nI s3)), (7, .int (nI i)), (8, .int (nI (by4 f (p + 2))))], [.int (nI (6 + by4 f (p + 2))), .int (nI p)], M1) _
            refine ps_st (S' := (276, [(0, .ref m0), (2, .int 1), (3, .int (nI x)), (4, .int (nI (by2 f p1))), (5, .int (nI p)), (6, .int (nI s3)), (7, .int (nI i)), (8, .int (nI (by4 f (p + 2))))], [.int ((nI p) + (nI (6 + by4 f (p + 2))))], M1)) rfl rfl rfl ?_
            rw [nI_add1 (p := p) (k := 6 + by4 f (p + 2)) (x := (nI (6 + by4 f (p + 2)))) rfl (by omega)]
            rw [show nI (p + (6 + by4 f (p + 2))) = nI (p + 6 + by4 f (p + 2)) from congrArg nI (by omega)]
            show pl _ _ _ (_, [(0, .ref m0), (2, .int 1), (3, .int (nI x)), (4, .int (nI (by2 f p1))), (5, .int (nI p)), (6, .int (nI s3)), (7, .int (nI i)), (8, .int (nI (by4 f (p + 2))))], [.int (nI (p + 6 + by4 f (p + 2)))], M1) _
            refine ps_st (S' := (278, [(5, .int (nI (p + 6 + by4 f (p + 2)))), (0, .ref m0), (2, .int 1), (3, .int (nI x)), (4, .int (nI (by2 f p1))), (6, .int (nI s3)), (7, .int (nI i)), (8, .int (nI (by4 f (p + 2))))], [], M1)) rfl rfl rfl ?_
            refine ps_st (S' := (281, [(7, .int ((nI i) + 1)), (5, .int (nI (p + 6 + by4 f (p + 2)))), (0, .ref m0), (2, .int 1), (3, .int (nI x)), (4, .int (nI (by2 f p1))), (6, .int (nI s3)), (8, .int (nI (by4 f (p + 2))))], [], M1)) rfl rfl rfl ?_
            rw [nI_add1 (p := i) (k := 1) (x := 1) rfl (by omega)]
            show pl _ _ _ (_, [(7, .int (nI (i + 1))), (5, .int (nI (p + 6 + by4 f (p + 2)))), (0, .ref m0), (2, .int 1), (3, .int (nI x)), (4, .int (nI (by2 f p1))), (6, .int (nI s3)), (8, .int (nI (by4 f (p + 2))))], [], M1) _
            refine ps_st (S' := (18, [(0, .ref m0), (2, .int 1), (3, .int (nI x)), (4, .int (nI (by2 f p1))), (5, .int (nI (p + 6 + by4 f (p + 2)))), (6, .int (nI s3)), (7, .int (nI (i + 1)))], [], M1)) rfl rfl rfl ?_
            exact ih.1 (i + 1) (p + 6 + by4 f (p + 2)) (s2) (s3) M1 I1 R1 hR1 hEI1 hER1 hl51 hl52 hl53 hF1 hY1 hP1 hK1 hX1 (by omega) (hl) (hb) (hq7) (by
                rw [← hs9, faS_u (i := i) (p := p) (s := s2) hi0 h1 hsm])
          · have c_142 : ¬ ((gI (kb mj 1 (tX f n E (by2 f p)) k)) < 0) := of_decide_eq_false c_142
            have hc3 : ¬ eqN (tX f n E (by2 f p)) (ltx 15) = 0 := by
              by_cases h9 : ¬ eqN (tX f n E (by2 f p)) (ltx 15) = 0
              · exact h9
              · rw [ek, hkk, if_neg h9] at c_142; exact absurd (by decide) c_142
            have hsm : fkN f n E (by2 f p) = 1 := by
              unfold fkN
              rw [← lt_15, if_neg hc3]
            rw [show gI (kb mj 1 (tX f n E (by2 f p)) k) = nI 0 by rw [ek, hkk, if_pos hc3]; rfl]
            have hs30 := sb_lt s3 0
            show pl _ _ _ (145, [(0, .ref m0), (2, .int 1), (3, .int (nI x)), (4, .int (nI (by2 f p1))), (5, .int (nI p)), (6, .int (nI s3)), (7, .int (nI i)), (8, .int (nI (by4 f (p + 2)))), (9, .int (nI t)), (10, .int (nI 0)), (11, .int (nI k))], [], M1) _
            refine ps_st (S' := (146, [(0, .ref m0), (2, .int 1), (3, .int (nI x)), (4, .int (nI (by2 f p1))), (5, .int (nI p)), (6, .int (nI s3)), (7, .int (nI i)), (8, .int (nI (by4 f (p + 2)))), (9, .int (nI t)), (10, .int (nI 0)), (11, .int (nI k))], [.int 1], M1)) rfl rfl rfl ?_
            refine ps_st (S' := (147, [(0, .ref m0), (2, .int 1), (3, .int (nI x)), (4, .int (nI (by2 f p1))), (5, .int (nI p)), (6, .int (nI s3)), (7, .int (nI i)), (8, .int (nI (by4 f (p + 2)))), (9, .int (nI t)), (10, .int (nI 0)), (11, .int (nI k))], [.int 1, .int 1], M1)) rfl rfl rfl ?_
            refine ps_if2 (S1 := (160, [(0, .ref m0), (2, .int 1), (3, .int (nI x)), (4, .int (nI (by2 f p1))), (5, .int (nI p)), (6, .int (nI s3)), (7, .int (nI i)), (8, .int (nI (by4 f (p + 2)))), (10, .int (nI 0))], [], M1)) (S2 := (150, [(0, .ref m0), (2, .int 1), (3, .int (nI x)), (4, .int (nI (by2 f p1))), (5, .int (nI p)), (6, .int (nI s3)), (7, .int (nI i)), (8, .int (nI (by4 f (p + 2)))), (9, .int (nI t)), (10, .int (nI 0)), (11, .int (nI k))], [], M1)) rfl rfl rfl (fun c_147 => ?_) (fun c_147 => ?_)
            · exact absurd (of_decide_eq_true c_147) (by decide)
            refine ps_st (S' := (151, [(0, .ref m0), (2, .int 1), (3, .int (nI x)), (4, .int (nI (by2 f p1))), (5, .int (nI p)), (6, .int (nI s3)), (7, .int (nI i)), (8, .int (nI (by4 f (p + 2)))), (9, .int (nI t)), (10, .int (nI 0)), (11, .int (nI k))], [.ref m0], M1)) rfl rfl rfl ?_
            refine pr_ref (j := 31) (S' := (154, [(0, .ref m0), (2, .int 1), (3, .int (nI x)), (4, .int (nI (by2 f p1))), (5, .int (nI p)), (6, .int (nI s3)), (7, .int (nI i)), (8, .int (nI (by4 f (p + 2)))), (9, .int (nI t)), (10, .int (nI 0)), (11, .int (nI k))], [.ref (q 31)], M1)) rfl hR1 rfl rfl ?_
            refine ps_st (S' := (155, [(0, .ref m0), (2, .int 1), (3, .int (nI x)), (4, .int (nI (by2 f p1))), (5, .int (nI p)), (6, .int (nI s3)), (7, .int (nI i)), (8, .int (nI (by4 f (p + 2)))), (9, .int (nI t)), (10, .int (nI 0)), (11, .int (nI k))], [.int (nI x), .ref (q 31)], M1)) rfl rfl rfl ?_
            refine ps_st (S' := (156, [(0, .ref m0), (2, .int 1), (3, .int (nI x)), (4, .int (nI (by2 f p1))), (5, .int (nI p)), (6, .int (nI s3)), (7, .int (nI i)), (8, .int (nI (by4 f (p + 2)))), (9, .int (nI t)), (10, .int (nI 0)), (11, .int (nI k))], [.int (nI x), .ref (q 31), .int (nI x), .ref (q 31)], M1)) rfl rfl rfl ?_
            refine pr_ldu (a := 31) rfl hR1 rfl (fun y_156 i0_156 i1_156 hy_156 => ?_)
            show pl _ _ _ (157, [(0, .ref m0), (2, .int 1), (3, .int (nI x)), (4, .int (nI (by2 f p1))), (5, .int (nI p)), (6, .int (nI s3)), (7, .int (nI i)), (8, .int (nI (by4 f (p + 2)))), (9, .int (nI t)), (10, .int (nI 0)), (11, .int (nI k))], [.int y_156, .int (nI x), .ref (q 31)], M1) _
            rw [nI_toNat (by omega)] at i1_156 hy_156
            refine ps_st (S' := (158, [(0, .ref m0), (2, .int 1), (3, .int (nI x)), (4, .int (nI (by2 f p1))), (5, .int (nI p)), (6, .int (nI s3)), (7, .int (nI i)), (8, .int (nI (by4 f (p + 2)))), (9, .int (nI t)), (10, .int (nI 0)), (11, .int (nI k))], [.int 1, .int y_156, .int (nI x), .ref (q 31)], M1)) rfl rfl rfl ?_
            refine ps_st (S' := (159, [(0, .ref m0), (2, .int 1), (3, .int (nI x)), (4, .int (nI (by2 f p1))), (5, .int (nI p)), (6, .int (nI s3)), (7, .int (nI i)), (8, .int (nI (by4 f (p + 2)))), (9, .int (nI t)), (10, .int (nI 0)), (11, .int (nI k))], [.int (y_156 + 1), .int (nI x), .ref (q 31)], M1)) rfl rfl rfl ?_
            refine pr_st (a := 31) (j := x) rfl hR1 rfl (by omega) (fun M37 R38 i1_159 hR39 hS40 => ?_)
            have hF_41 := hF1.mono (fun _ _ => rfl) (rRx hS40 (by decide))
            have hY_42 := hY1.mono (fun _ _ => rfl) (rRx hS40 (by decide))
            have hP_43 := hP1.mono (fun _ _ => rfl) (rRx hS40 (by decide))
            have hK_44 := hK1.mono (fun _ _ => rfl) (rRx hS40 (by decide))
            have hX_45 := hX1.mono (fun _ _ => rfl) (rRx hS40 (by decide))
            have hER46 := hER1.st hS40 (by decide)
            show pl _ _ _ (160, [(0, .ref m0), (2, .int 1), (3, .int (nI x)), (4, .int (nI (by2 f p1))), (5, .int (nI p)), (6, .int (nI s3)), (7, .int (nI i)), (8, .int (nI (by4 f (p + 2)))), (10, .int (nI 0))], [], M37) _
            refine ps_st (S' := (161, [(0, .ref m0), (2, .int 1), (3, .int (nI x)), (4, .int (nI (by2 f p1))), (5, .int (nI p)), (6, .int (nI s3)), (7, .int (nI i)), (8, .int (nI (by4 f (p + 2)))), (10, .int (nI 0))], [.int 1], M37)) rfl rfl rfl ?_
            refine ps_st (S' := (162, [(0, .ref m0), (2, .int 1), (3, .int (nI x)), (4, .int (nI (by2 f p1))), (5, .int (nI p)), (6, .int (nI s3)), (7, .int (nI i)), (8, .int (nI (by4 f (p + 2)))), (10, .int (nI 0))], [.int 2, .int 1], M37)) rfl rfl rfl ?_
            refine ps_if2 (S1 := (175, [(0, .ref m0), (2, .int 1), (3, .int (nI x)), (4, .int (nI (by2 f p1))), (5, .int (nI p)), (6, .int (nI s3)), (7, .int (nI i)), (8, .int (nI (by4 f (p + 2)))), (10, .int (nI 0))], [], M37)) (S2 := (165, [(0, .ref m0), (2, .int 1), (3, .int (nI x)), (4, .int (nI (by2 f p1))), (5, .int (nI p)), (6, .int (nI s3)), (7, .int (nI i)), (8, .int (nI (by4 f (p + 2)))), (10, .int (nI 0))], [], M37)) rfl rfl rfl (fun c_162 => ?_) (fun c_162 => ?_)
            rotate_left
            · exact absurd (by decide) (of_decide_eq_false c_162)
            refine ps_st (S' := (176, [(0, .ref m0), (2, .int 1), (3, .int (nI x)), (4, .int (nI (by2 f p1))), (5, .int (nI p)), (6, .int (nI s3)), (7, .int (nI i)), (8, .int (nI (by4 f (p + 2)))), (10, .int (nI 0))], [.int 1], M37)) rfl rfl rfl ?_
            refine ps_st (S' := (177, [(0, .ref m0), (2, .int 1), (3, .int (nI x)), (4, .int (nI (by2 f p1))), (5, .int (nI p)), (6, .int (nI s3)), (7, .int (nI i)), (8, .int (nI (by4 f (p + 2)))), (10, .int (nI 0))], [.int 4, .int 1], M37)) rfl rfl rfl ?_
            refine ps_if2 (S1 := (190, [(0, .ref m0), (2, .int 1), (3, .int (nI x)), (4, .int (nI (by2 f p1))), (5, .int (nI p)), (6, .int (nI s3)), (7, .int (nI i)), (8, .int (nI (by4 f (p + 2)))), (10, .int (nI 0))], [], M37)) (S2 := (180, [(0, .ref m0), (2, .int 1), (3, .int (nI x)), (4, .int (nI (by2 f p1))), (5, .int (nI p)), (6, .int (nI s3)), (7, .int (nI i)), (8, .int (nI (by4 f (p + 2)))), (10, .int (nI 0))], [], M37)) rfl rfl rfl (fun c_177 => ?_) (fun c_177 => ?_)
            rotate_left
            · exact absurd (by decide) (of_decide_eq_false c_177)
            refine ps_st (S' := (192, [(0, .ref m0), (2, .int 1), (3, .int (nI x)), (4, .int (nI (by2 f p1))), (5, .int (nI p)), (6, .int (nI s3)), (7, .int (nI i)), (8, .int (nI (by4 f (p + 2)))), (10, .int (nI 0))], [.int (nI s3)], M37)) rfl rfl rfl ?_
            refine ps_st (S' := (194, [(0, .ref m0), (2, .int 1), (3, .int (nI x)), (4, .int (nI (by2 f p1))), (5, .int (nI p)), (6, .int (nI s3)), (7, .int (nI i)), (8, .int (nI (by4 f (p + 2)))), (10, .int (nI 0))], [.int (nI 0), .int (nI s3)], M37)) rfl rfl rfl ?_
            refine ps_st (S' := (195, [(0, .ref m0), (2, .int 1), (3, .int (nI x)), (4, .int (nI (by2 f p1))), (5, .int (nI p)), (6, .int (nI s3)), (7, .int (nI i)), (8, .int (nI (by4 f (p + 2)))), (10, .int (nI 0))], [.int ((nI s3) >>> ((nI 0) &&& 31))], M37)) rfl rfl rfl ?_
            refine ps_st (S' := (196, [(0, .ref m0), (2, .int 1), (3, .int (nI x)), (4, .int (nI (by2 f p1))), (5, .int (nI p)), (6, .int (nI s3)), (7, .int (nI i)), (8, .int (nI (by4 f (p + 2)))), (10, .int (nI 0))], [.int 1, .int ((nI s3) >>> ((nI 0) &&& 31))], M37)) rfl rfl rfl ?_
            refine ps_st (S' := (197, [(0, .ref m0), (2, .int 1), (3, .int (nI x)), (4, .int (nI (by2 f p1))), (5, .int (nI p)), (6, .int (nI s3)), (7, .int (nI i)), (8, .int (nI (by4 f (p + 2)))), (10, .int (nI 0))], [.int (((nI s3) >>> ((nI 0) &&& 31)) &&& 1)], M37)) rfl rfl rfl ?_
            rw [shr_k s3 (by omega) 0 (by omega)]
            show pl _ _ _ (_, [(0, .ref m0), (2, .int 1), (3, .int (nI x)), (4, .int (nI (by2 f p1))), (5, .int (nI p)), (6, .int (nI s3)), (7, .int (nI i)), (8, .int (nI (by4 f (p + 2)))), (10, .int (nI 0))], [.int (nI (sb s3 0))], M37) _
            refine ps_st (S' := (198, [(0, .ref m0), (2, .int 1), (3, .int (nI x)), (4, .int (nI (by2 f p1))), (5, .int (nI p)), (6, .int (nI s3)), (7, .int (nI i)), (8, .int (nI (by4 f (p + 2)))), (10, .int (nI 0))], [.int 1, .int (nI (sb s3 0))], M37)) rfl rfl rfl ?_
            refine ps_if2 (S1 := (212, [(0, .ref m0), (2, .int 1), (3, .int (nI x)), (4, .int (nI (by2 f p1))), (5, .int (nI p)), (6, .int (nI s3)), (7, .int (nI i)), (8, .int (nI (by4 f (p + 2)))), (10, .int (nI 0))], [], M37)) (S2 := (201, [(0, .ref m0), (2, .int 1), (3, .int (nI x)), (4, .int (nI (by2 f p1))), (5, .int (nI p)), (6, .int (nI s3)), (7, .int (nI i)), (8, .int (nI (by4 f (p + 2)))), (10, .int (nI 0))], [], M37)) rfl rfl rfl (fun c_198 => ?_) (fun c_198 => ?_)
            · have c_198 : ¬ (nI (sb s3 0)) = 1 := of_decide_eq_true c_198
              have n_198 : ¬ (sb s3 0 = 1) := fun h9 => c_198 ((eq_nI (p := sb s3 0) (n := 1) (Nat.lt_trans (sb_lt _ _) (by decide)) (by decide)).mpr h9)
              refine ps_st (S' := (213, [(0, .ref m0), (2, .int 1), (3, .int (nI x)), (4, .int (nI (by2 f p1))), (5, .int (nI p)), (6, .int (nI s3)), (7, .int (nI i)), (8, .int (nI (by4 f (p + 2)))), (10, .int (nI 0))], [.ref m0], M37)) rfl rfl rfl ?_
              refine ps_st (S' := (215, [(0, .ref m0), (2, .int 1), (3, .int (nI x)), (4, .int (nI (by2 f p1))), (5, .int (nI p)), (6, .int (nI s3)), (7, .int (nI i)), (8, .int (nI (by4 f (p + 2)))), (10, .int (nI 0))], [.int (nI 0), .ref m0], M37)) rfl rfl rfl ?_
              refine ps_st (S' := (217, [(0, .ref m0), (2, .int 1), (3, .int (nI x)), (4, .int (nI (by2 f p1))), (5, .int (nI p)), (6, .int (nI s3)), (7, .int (nI i)), (8, .int (nI (by4 f (p + 2)))), (10, .int (nI 0))], [.int (nI p), .int (nI 0), .ref m0], M37)) rfl rfl rfl ?_
              refine ps_st (S' := (219, [(0, .ref m0), (2, .int 1), (3, .int (nI x)), (4, .int (nI (by2 f p1))), (5, .int (nI p)), (6, .int (nI s3)), (7, .int (nI i)), (8, .int (nI (by4 f (p + 2)))), (10, .int (nI 0))], [.int (nI p), .int (nI p), .int (nI 0), .ref m0], M37)) rfl rfl rfl ?_
              refine ps_st (S' := (221, [(0, .ref m0), (2, .int 1), (3, .int (nI x)), (4, .int (nI (by2 f p1))), (5, .int (nI p)), (6, .int (nI s3)), (7, .int (nI i)), (8, .int (nI (by4 f (p + 2)))), (10, .int (nI 0))], [.int 6, .int (nI p), .int (nI p), .int (nI 0), .ref m0], M37)) rfl rfl rfl ?_
              refine ps_st (S' := (222, [(0, .ref m0), (2, .int 1), (3, .int (nI x)), (4, .int (nI (by2 f p1))), (5, .int (nI p)), (6, .int (nI s3)), (7, .int (nI i)), (8, .int (nI (by4 f (p + 2)))), (10, .int (nI 0))], [.int ((nI p) + 6), .int (nI p), .int (nI 0), .ref m0], M37)) rfl rfl rfl ?_
              rw [nI_add1 (p := p) (k := 6) (x := 6) rfl (by omega)]
              show pl _ _ _ (_, [(0, .ref m0), (2, .int 1), (3, .int (nI x)), (4, .int (nI (by2 f p1))), (5, .int (nI p)), (6, .int (nI s3)), (7, .int (nI i)), (8, .int (nI (by4 f (p + 2)))), (10, .int (nI 0))], [.int (nI (p + 6)), .int (nI p), .int (nI 0), .ref m0], M37) _
              refine ps_st (S' := (224, [(0, .ref m0), (2, .int 1), (3, .int (nI x)), (4, .int (nI (by2 f p1))), (5, .int (nI p)), (6, .int (nI s3)), (7, .int (nI i)), (8, .int (nI (by4 f (p + 2)))), (10, .int (nI 0))], [.int (nI p), .int (nI (p + 6)), .int (nI p), .int (nI 0), .ref m0], M37)) rfl rfl rfl ?_
              refine ps_st (S' := (226, [(0, .ref m0), (2, .int 1), (3, .int (nI x)), (4, .int (nI (by2 f p1))), (5, .int (nI p)), (6, .int (nI s3)), (7, .int (nI i)), (8, .int (nI (by4 f (p + 2)))), (10, .int (nI 0))], [.int 6, .int (nI p), .int (nI (p + 6)), .int (nI p), .int (nI 0), .ref m0], M37)) rfl rfl rfl ?_
              refine ps_st (S' := (227, [(0, .ref m0), (2, .int 1), (3, .int (nI x)), (4, .int (nI (by2 f p1))), (5, .int (nI p)), (6, .int (nI s3)), (7, .int (nI i)), (8, .int (nI (by4 f (p + 2)))), (10, .int (nI 0))], [.int ((nI p) + 6), .int (nI (p + 6)), .int (nI p), .int (nI 0), .ref m0], M37)) rfl rfl rfl ?_
              rw [nI_add1 (p := p) (k := 6) (x := 6) rfl (by omega)]
              show pl _ _ _ (_, [(0, .ref m0), (2, .int 1), (3, .int (nI x)), (4, .int (nI (by2 f p1))), (5, .int (nI p)), (6, .int (nI s3)), (7, .int (nI i)), (8, .int (nI (by4 f (p + 2)))), (10, .int (nI 0))], [.int (nI (p + 6)), .int (nI (p + 6)), .int (nI p), .int (nI 0), .ref m0], M37) _
              refine ps_st (S' := (229, [(0, .ref m0), (2, .int 1), (3, .int (nI x)), (4, .int (nI (by2 f p1))), (5, .int (nI p)), (6, .int (nI s3)), (7, .int (nI i)), (8, .int (nI (by4 f (p + 2)))), (10, .int (nI 0))], [.int (nI (by4 f (p + 2))), .int (nI (p + 6)), .int (nI (p + 6)), .int (nI p), .int (nI 0), .ref m0], M37)) rfl rfl rfl ?_
              refine ps_st (S' := (230, [(0, .ref m0), (2, .int 1), (3, .int (nI x)), (4, .int (nI (by2 f p1))), (5, .int (nI p)), (6, .int (nI s3)), (7, .int (nI i)), (8, .int (nI (by4 f (p + 2)))), (10, .int (nI 0))], [.int ((nI (p + 6)) + (nI (by4 f (p + 2)))), .int (nI (p + 6)), .int (nI p), .int (nI 0), .ref m0], M37)) rfl rfl rfl ?_
              rw [nI_add1 (p := p + 6) (k := by4 f (p + 2)) (x := (nI (by4 f (p + 2)))) rfl (by omega)]
              show pl _ _ _ (_, [(0, .ref m0), (2, .int 1), (3, .int (nI x)), (4, .int (nI (by2 f p1))), (5, .int (nI p)), (6, .int (nI s3)), (7, .int (nI i)), (8, .int (nI (by4 f (p + 2)))), (10, .int (nI 0))], [.int (nI (p + 6 + by4 f (p + 2))), .int (nI (p + 6)), .int (nI p), .int (nI 0), .ref m0], M37) _
              refine ps_st (S' := (231, [(0, .ref m0), (2, .int 1), (3, .int (nI x)), (4, .int (nI (by2 f p1))), (5, .int (nI p)), (6, .int (nI s3)), (7, .int (nI i)), (8, .int (nI (by4 f (p + 2)))), (10, .int (nI 0))], [.int (nI x), .int (nI (p + 6 + by4 f (p + 2))), .int (nI (p + 6)), .int (nI p), .int (nI 0), .ref m0], M37)) rfl rfl rfl ?_
              refine ps_st (S' := (233, [(0, .ref m0), (2, .int 1), (3, .int (nI x)), (4, .int (nI (by2 f p1))), (5, .int (nI p)), (6, .int (nI s3)), (7, .int (nI i)), (8, .int (nI (by4 f (p + 2)))), (10, .int (nI 0))], [.int (nI s3), .int (nI x), .int (nI (p + 6 + by4 f (p + 2))), .int (nI (p + 6)), .int (nI p), .int (nI 0), .ref m0], M37)) rfl rfl rfl ?_
              refine pl_call (a := [.ref m0, .int (nI 0), .int (nI p), .int (nI (p + 6)), .int (nI (p + 6 + by4 f (p + 2))), .int (nI x), .int (nI s3)]) (rest := []) rfl rfl rfl (rd_attr0 (n := n) (f := f) (tx := tx) (cN := cN) (A := A) (N := N) (mj := mj) (E := E) (p0 := (p + 6)) (e := (p + 6 + by4 f (p + 2))) (x := x) (s3 := s3) (t := (nI p)) (fl := fl) (ds := ds) (l := l) hR39 hl51 hl52 hl53 hF_41 hY_42 hP_43 (hEP) (hN) (hmj) (⟨by omega, by omega⟩) (hl) (hx) (hX_45.1) (hX_45.2) (hdt) (hfd) (hf6)) (fun v47 M48 q49 => ?_)
              rcases q49 with q49 | q49 | q49
              · skip
                obtain ⟨I50, R51, q233_s, rfl, hR52, hI53, hX54⟩ := q49
                have hi55 := (hI53 51 (by decide)).trans hl51
                have hi56 := (hI53 52 (by decide)).trans hl52
                have hi57 := (hI53 53 (by decide)).trans hl53
                have hF_58 := hF_41.mono (cIx hI53 (by decide)) (cRx hX54 (by decide))
                have hY_59 := hY_42.mono (cIx hI53 (by decide)) (cRx hX54 (by decide))
                have hP_60 := hP_43.mono (cIx hI53 (by decide)) (cRx hX54 (by decide))
                have hK_61 := hK_44.mono (cIx hI53 (by decide)) (cRx hX54 (by decide))
                have hX_62 := hX_45.mono (cIx hI53 (by decide)) (cRx hX54 (by decide))
                have hEI63 := hEI1.tr hI53 (by decide)
                have hER64 := hER46.tr hX54 (by decide)
                show pl _ _ _ (236, [(0, .ref m0), (2, .int 1), (3, .int (nI x)), (4, .int (nI (by2 f p1))), (5, .int (nI p)), (6, .int (nI s3)), (7, .int (nI i)), (8, .int (nI (by4 f (p + 2)))), (10, .int (nI 0))], [.int 30], M48) _
                refine ps_st (S' := (238, [(11, .int 30), (0, .ref m0), (2, .int 1), (3, .int (nI x)), (4, .int (nI (by2 f p1))), (5, .int (nI p)), (6, .int (nI s3)), (7, .int (nI i)), (8, .int (nI (by4 f (p + 2)))), (10, .int (nI 0))], [], M48)) rfl rfl rfl ?_
                refine ps_st (S' := (240, [(11, .int 30), (0, .ref m0), (2, .int 1), (3, .int (nI x)), (4, .int (nI (by2 f p1))), (5, .int (nI p)), (6, .int (nI s3)), (7, .int (nI i)), (8, .int (nI (by4 f (p + 2)))), (10, .int (nI 0))], [.int (nI s3)], M48)) rfl rfl rfl ?_
                refine ps_st (S' := (241, [(11, .int 30), (0, .ref m0), (2, .int 1), (3, .int (nI x)), (4, .int (nI (by2 f p1))), (5, .int (nI p)), (6, .int (nI s3)), (7, .int (nI i)), (8, .int (nI (by4 f (p + 2)))), (10, .int (nI 0))], [.int 1, .int (nI s3)], M48)) rfl rfl rfl ?_
                refine ps_st (S' := (243, [(11, .int 30), (0, .ref m0), (2, .int 1), (3, .int (nI x)), (4, .int (nI (by2 f p1))), (5, .int (nI p)), (6, .int (nI s3)), (7, .int (nI i)), (8, .int (nI (by4 f (p + 2)))), (10, .int (nI 0))], [.int (nI 0), .int 1, .int (nI s3)], M48)) rfl rfl rfl ?_
                refine ps_st (S' := (244, [(11, .int 30), (0, .ref m0), (2, .int 1), (3, .int (nI x)), (4, .int (nI (by2 f p1))), (5, .int (nI p)), (6, .int (nI s3)), (7, .int (nI i)), (8, .int (nI (by4 f (p + 2)))), (10, .int (nI 0))], [.int (1 <<< ((nI 0) &&& 31)), .int (nI s3)], M48)) rfl rfl rfl ?_
                refine ps_st (S' := (245, [(11, .int 30), (0, .ref m0), (2, .int 1), (3, .int (nI x)), (4, .int (nI (by2 f p1))), (5, .int (nI p)), (6, .int (nI s3)), (7, .int (nI i)), (8, .int (nI (by4 f (p + 2)))), (10, .int (nI 0))], [.int ((nI s3) ||| (1 <<< ((nI 0) &&& 31)))], M48)) rfl rfl rfl ?_
                rw [or_k s3 0 (by omega)]
                show pl _ _ _ (_, [(11, .int 30), (0, .ref m0), (2, .int 1), (3, .int (nI x)), (4, .int (nI (by2 f p1))), (5, .int (nI p)), (6, .int (nI s3)), (7, .int (nI i)), (8, .int (nI (by4 f (p + 2)))), (10, .int (nI 0))], [.int (nI (so s3 0))], M48) _
                refine ps_st (S' := (247, [(6, .int (nI (so s3 0))), (11, .int 30), (0, .ref m0), (2, .int 1), (3, .int (nI x)), (4, .int (nI (by2 f p1))), (5, .int (nI p)), (7, .int (nI i)), (8, .int (nI (by4 f (p + 2)))), (10, .int (nI 0))], [], M48)) rfl rfl rfl ?_
                refine ps_st (S' := (249, [(6, .int (nI (so s3 0))), (11, .int 30), (0, .ref m0), (2, .int 1), (3, .int (nI x)), (4, .int (nI (by2 f p1))), (5, .int (nI p)), (7, .int (nI i)), (8, .int (nI (by4 f (p + 2)))), (10, .int (nI 0))], [.int 30], M48)) rfl rfl rfl ?_
                refine ps_if (S1 := (261, [(0, .ref m0), (2, .int 1), (3, .int (nI x)), (4, .int (nI (by2 f p1))), (5, .int (nI p)), (6, .int (nI (so s3 0))), (7, .int (nI i)), (8, .int (nI (by4 f (p + 2)))), (11, .int 30)], [], M48)) (S2 := (252, [(6, .int (nI (so s3 0))), (11, .int 30), (0, .ref m0), (2, .int 1), (3, .int (nI x)), (4, .int (nI (by2 f p1))), (5, .int (nI p)), (7, .int (nI i)), (8, .int (nI (by4 f (p + 2)))), (10, .int (nI 0))], [], M48)) rfl rfl rfl (fun c_249 => ?_) (fun c_249 => ?_)
                · exact absurd (of_decide_eq_true c_249) (by decide)
                refine ps_st (S' := (253, [(6, .int (nI (so s3 0))), (11, .int 30), (0, .ref m0), (2, .int 1), (3, .int (nI x)), (4, .int (nI (by2 f p1))), (5, .int (nI p)), (7, .int (nI i)), (8, .int (nI (by4 f (p + 2)))), (10, .int (nI 0))], [.ref m0], M48)) rfl rfl rfl ?_
                refine ps_st (S' := (255, [(6, .int (nI (so s3 0))), (11, .int 30), (0, .ref m0), (2, .int 1), (3, .int (nI x)), (4, .int (nI (by2 f p1))), (5, .int (nI p)), (7, .int (nI i)), (8, .int (nI (by4 f (p + 2)))), (10, .int (nI 0))], [.int 30, .ref m0], M48)) rfl rfl rfl ?_
                refine ps_st (S' := (257, [(6, .int (nI (so s3 0))), (11, .int 30), (0, .ref m0), (2, .int 1), (3, .int (nI x)), (4, .int (nI (by2 f p1))), (5, .int (nI p)), (7, .int (nI i)), (8, .int (nI (by4 f (p + 2)))), (10, .int (nI 0))], [.int (nI p), .int 30, .ref m0], M48)) rfl rfl rfl ?_
                refine pl_call (a := [.ref m0, .int 30, .int (nI p)]) (rest := []) rfl rfl rfl (rd_wrong (x1 := 30) (x2 := (nI p)) hR52) (fun v65 M66 q67 => ?_)
                obtain ⟨I68, R69, rfl, hR70, hI71, hX72, hi73, hi74⟩ := q67
                have hi75 := (hI71 51 (by decide)).trans hi55
                have hi76 := (hI71 52 (by decide)).trans hi56
                have hi77 := (hI71 53 (by decide)).trans hi57
                have hF_78 := hF_58.mono (cIx hI71 (by decide)) (cRx hX72 (by decide))
                have hY_79 := hY_59.mono (cIx hI71 (by decide)) (cRx hX72 (by decide))
                have hP_80 := hP_60.mono (cIx hI71 (by decide)) (cRx hX72 (by decide))
                have hK_81 := hK_61.mono (cIx hI71 (by decide)) (cRx hX72 (by decide))
                have hX_82 := hX_62.mono (cIx hI71 (by decide)) (cRx hX72 (by decide))
                have hEI83 := hEI63.tr hI71 (by decide)
                have hER84 := hER64.tr hX72 (by decide)
                show pl _ _ _ (260, [(6, .int (nI (so s3 0))), (11, .int 30), (0, .ref m0), (2, .int 1), (3, .int (nI x)), (4, .int (nI (by2 f p1))), (5, .int (nI p)), (7, .int (nI i)), (8, .int (nI (by4 f (p + 2)))), (10, .int (nI 0))], [.int 0], M66) _
                refine ps_st (S' := (261, [(0, .ref m0), (2, .int 1), (3, .int (nI x)), (4, .int (nI (by2 f p1))), (5, .int (nI p)), (6, .int (nI (so s3 0))), (7, .int (nI i)), (8, .int (nI (by4 f (p + 2)))), (11, .int 30)], [], M66)) rfl rfl rfl ?_
                refine ps_st (S' := (263, [(0, .ref m0), (2, .int 1), (3, .int (nI x)), (4, .int (nI (by2 f p1))), (5, .int (nI p)), (6, .int (nI (so s3 0))), (7, .int (nI i)), (8, .int (nI (by4 f (p + 2)))), (11, .int 30)], [.int 30], M66)) rfl rfl rfl ?_
                refine ps_if (S1 := (268, [(0, .ref m0), (2, .int 1), (3, .int (nI x)), (4, .int (nI (by2 f p1))), (5, .int (nI p)), (6, .int (nI (so s3 0))), (7, .int (nI i)), (8, .int (nI (by4 f (p + 2))))], [], M66)) (S2 := (266, [(0, .ref m0), (2, .int 1), (3, .int (nI x)), (4, .int (nI (by2 f p1))), (5, .int (nI p)), (6, .int (nI (so s3 0))), (7, .int (nI i)), (8, .int (nI (by4 f (p + 2)))), (11, .int 30)], [], M66)) rfl rfl rfl (fun c_263 => ?_) (fun c_263 => ?_)
                · exact absurd (of_decide_eq_true c_263) (by decide)
                refine ps_st (S' := (267, [(0, .ref m0), (2, .int 1), (3, .int (nI x)), (4, .int (nI (by2 f p1))), (5, .int (nI p)), (6, .int (nI (so s3 0))), (7, .int (nI i)), (8, .int (nI (by4 f (p + 2)))), (11, .int 30)], [.int (-1)], M66)) rfl rfl rfl ?_
                exact ps_ret rfl rfl (Or.inl ⟨(30, p), I68, R69, by
                    rw [← hs9, faS_k (i := i) (p := p) (s := s2) hi0 h1 hsm (by omega), if_pos q233_s], rfl, hR70, hEI83, hER84, hi73, hi74⟩)
              · skip
                obtain ⟨I85, R86, q233_s, q233_b, rfl, hR87, hI88, hX89⟩ := q49
                have hi90 := (hI88 51 (by decide)).trans hl51
                have hi91 := (hI88 52 (by decide)).trans hl52
                have hi92 := (hI88 53 (by decide)).trans hl53
                have hF_93 := hF_41.mono (cIx hI88 (by decide)) (cRx hX89 (by decide))
                have hY_94 := hY_42.mono (cIx hI88 (by decide)) (cRx hX89 (by decide))
                have hP_95 := hP_43.mono (cIx hI88 (by decide)) (cRx hX89 (by decide))
                have hK_96 := hK_44.mono (cIx hI88 (by decide)) (cRx hX89 (by decide))
                have hX_97 := hX_45.mono (cIx hI88 (by decide)) (cRx hX89 (by decide))
                have hEI98 := hEI1.tr hI88 (by decide)
                have hER99 := hER46.tr hX89 (by decide)
                show pl _ _ _ (236, [(0, .ref m0), (2, .int 1), (3, .int (nI x)), (4, .int (nI (by2 f p1))), (5, .int (nI p)), (6, .int (nI s3)), (7, .int (nI i)), (8, .int (nI (by4 f (p + 2)))), (10, .int (nI 0))], [.int 31], M48) _
                refine ps_st (S' := (238, [(11, .int 31), (0, .ref m0), (2, .int 1), (3, .int (nI x)), (4, .int (nI (by2 f p1))), (5, .int (nI p)), (6, .int (nI s3)), (7, .int (nI i)), (8, .int (nI (by4 f (p + 2)))), (10, .int (nI 0))], [], M48)) rfl rfl rfl ?_
                refine ps_st (S' := (240, [(11, .int 31), (0, .ref m0), (2, .int 1), (3, .int (nI x)), (4, .int (nI (by2 f p1))), (5, .int (nI p)), (6, .int (nI s3)), (7, .int (nI i)), (8, .int (nI (by4 f (p + 2)))), (10, .int (nI 0))], [.int (nI s3)], M48)) rfl rfl rfl ?_
                refine ps_st (S' := (241, [(11, .int 31), (0, .ref m0), (2, .int 1), (3, .int (nI x)), (4, .int (nI (by2 f p1))), (5, .int (nI p)), (6, .int (nI s3)), (7, .int (nI i)), (8, .int (nI (by4 f (p + 2)))), (10, .int (nI 0))], [.int 1, .int (nI s3)], M48)) rfl rfl rfl ?_
                refine ps_st (S' := (243, [(11, .int 31), (0, .ref m0), (2, .int 1), (3, .int (nI x)), (4, .int (nI (by2 f p1))), (5, .int (nI p)), (6, .int (nI s3)), (7, .int (nI i)), (8, .int (nI (by4 f (p + 2)))), (10, .int (nI 0))], [.int (nI 0), .int 1, .int (nI s3)], M48)) rfl rfl rfl ?_
                refine ps_st (S' := (244, [(11, .int 31), (0, .ref m0), (2, .int 1), (3, .int (nI x)), (4, .int (nI (by2 f p1))), (5, .int (nI p)), (6, .int (nI s3)), (7, .int (nI i)), (8, .int (nI (by4 f (p + 2)))), (10, .int (nI 0))], [.int (1 <<< ((nI 0) &&& 31)), .int (nI s3)], M48)) rfl rfl rfl ?_
                refine ps_st (S' := (245, [(11, .int 31), (0, .ref m0), (2, .int 1), (3, .int (nI x)), (4, .int (nI (by2 f p1))), (5, .int (nI p)), (6, .int (nI s3)), (7, .int (nI i)), (8, .int (nI (by4 f (p + 2)))), (10, .int (nI 0))], [.int ((nI s3) ||| (1 <<< ((nI 0) &&& 31)))], M48)) rfl rfl rfl ?_
                rw [or_k s3 0 (by omega)]
                show pl _ _ _ (_, [(11, .int 31), (0, .ref m0), (2, .int 1), (3, .int (nI x)), (4, .int (nI (by2 f p1))), (5, .int (nI p)), (6, .int (nI s3)), (7, .int (nI i)), (8, .int (nI (by4 f (p + 2)))), (10, .int (nI 0))], [.int (nI (so s3 0))], M48) _
                refine ps_st (S' := (247, [(6, .int (nI (so s3 0))), (11, .int 31), (0, .ref m0), (2, .int 1), (3, .int (nI x)), (4, .int (nI (by2 f p1))), (5, .int (nI p)), (7, .int (nI i)), (8, .int (nI (by4 f (p + 2)))), (10, .int (nI 0))], [], M48)) rfl rfl rfl ?_
                refine ps_st (S' := (249, [(6, .int (nI (so s3 0))), (11, .int 31), (0, .ref m0), (2, .int 1), (3, .int (nI x)), (4, .int (nI (by2 f p1))), (5, .int (nI p)), (7, .int (nI i)), (8, .int (nI (by4 f (p + 2)))), (10, .int (nI 0))], [.int 31], M48)) rfl rfl rfl ?_
                refine ps_if (S1 := (261, [(0, .ref m0), (2, .int 1), (3, .int (nI x)), (4, .int (nI (by2 f p1))), (5, .int (nI p)), (6, .int (nI (so s3 0))), (7, .int (nI i)), (8, .int (nI (by4 f (p + 2)))), (11, .int 31)], [], M48)) (S2 := (252, [(6, .int (nI (so s3 0))), (11, .int 31), (0, .ref m0), (2, .int 1), (3, .int (nI x)), (4, .int (nI (by2 f p1))), (5, .int (nI p)), (7, .int (nI i)), (8, .int (nI (by4 f (p + 2)))), (10, .int (nI 0))], [], M48)) rfl rfl rfl (fun c_249 => ?_) (fun c_249 => ?_)
                · exact absurd (of_decide_eq_true c_249) (by decide)
                refine ps_st (S' := (253, [(6, .int (nI (so s3 0))), (11, .int 31), (0, .ref m0), (2, .int 1), (3, .int (nI x)), (4, .int (nI (by2 f p1))), (5, .int (nI p)), (7, .int (nI i)), (8, .int (nI (by4 f (p + 2)))), (10, .int (nI 0))], [.ref m0], M48)) rfl rfl rfl ?_
                refine ps_st (S' := (255, [(6, .int (nI (so s3 0))), (11, .int 31), (0, .ref m0), (2, .int 1), (3, .int (nI x)), (4, .int (nI (by2 f p1))), (5, .int (nI p)), (7, .int (nI i)), (8, .int (nI (by4 f (p + 2)))), (10, .int (nI 0))], [.int 31, .ref m0], M48)) rfl rfl rfl ?_
                refine ps_st (S' := (257, [(6, .int (nI (so s3 0))), (11, .int 31), (0, .ref m0), (2, .int 1), (3, .int (nI x)), (4, .int (nI (by2 f p1))), (5, .int (nI p)), (7, .int (nI i)), (8, .int (nI (by4 f (p + 2)))), (10, .int (nI 0))], [.int (nI p), .int 31, .ref m0], M48)) rfl rfl rfl ?_
                refine pl_call (a := [.ref m0, .int 31, .int (nI p)]) (rest := []) rfl rfl rfl (rd_wrong (x1 := 31) (x2 := (nI p)) hR87) (fun v100 M101 q102 => ?_)
                obtain ⟨I103, R104, rfl, hR105, hI106, hX107, hi108, hi109⟩ := q102
                have hi110 := (hI106 51 (by decide)).trans hi90
                have hi111 := (hI106 52 (by decide)).trans hi91
                have hi112 := (hI106 53 (by decide)).trans hi92
                have hF_113 := hF_93.mono (cIx hI106 (by decide)) (cRx hX107 (by decide))
                have hY_114 := hY_94.mono (cIx hI106 (by decide)) (cRx hX107 (by decide))
                have hP_115 := hP_95.mono (cIx hI106 (by decide)) (cRx hX107 (by decide))
                have hK_116 := hK_96.mono (cIx hI106 (by decide)) (cRx hX107 (by decide))
                have hX_117 := hX_97.mono (cIx hI106 (by decide)) (cRx hX107 (by decide))
                have hEI118 := hEI98.tr hI106 (by decide)
                have hER119 := hER99.tr hX107 (by decide)
                show pl _ _ _ (260, [(6, .int (nI (so s3 0))), (11, .int 31), (0, .ref m0), (2, .int 1), (3, .int (nI x)), (4, .int (nI (by2 f p1))), (5, .int (nI p)), (7, .int (nI i)), (8, .int (nI (by4 f (p + 2)))), (10, .int (nI 0))], [.int 0], M101) _
                refine ps_st (S' := (261, [(0, .ref m0), (2, .int 1), (3, .int (nI x)), (4, .int (nI (by2 f p1))), (5, .int (nI p)), (6, .int (nI (so s3 0))), (7, .int (nI i)), (8, .int (nI (by4 f (p + 2)))), (11, .int 31)], [], M101)) rfl rfl rfl ?_
                refine ps_st (S' := (263, [(0, .ref m0), (2, .int 1), (3, .int (nI x)), (4, .int (nI (by2 f p1))), (5, .int (nI p)), (6, .int (nI (so s3 0))), (7, .int (nI i)), (8, .int (nI (by4 f (p + 2)))), (11, .int 31)], [.int 31], M101)) rfl rfl rfl ?_
                refine ps_if (S1 := (268, [(0, .ref m0), (2, .int 1), (3, .int (nI x)), (4, .int (nI (by2 f p1))), (5, .int (nI p)), (6, .int (nI (so s3 0))), (7, .int (nI i)), (8, .int (nI (by4 f (p + 2))))], [], M101)) (S2 := (266, [(0, .ref m0), (2, .int 1), (3, .int (nI x)), (4, .int (nI (by2 f p1))), (5, .int (nI p)), (6, .int (nI (so s3 0))), (7, .int (nI i)), (8, .int (nI (by4 f (p + 2)))), (11, .int 31)], [], M101)) rfl rfl rfl (fun c_263 => ?_) (fun c_263 => ?_)
                · exact absurd (of_decide_eq_true c_263) (by decide)
                refine ps_st (S' := (267, [(0, .ref m0), (2, .int 1), (3, .int (nI x)), (4, .int (nI (by2 f p1))), (5, .int (nI p)), (6, .int (nI (so s3 0))), (7, .int (nI i)), (8, .int (nI (by4 f (p + 2)))), (11, .int 31)], [.int (-1)], M101)) rfl rfl rfl ?_
                exact ps_ret rfl rfl (Or.inl ⟨(31, p), I103, R104, by
                    rw [← hs9, faS_k (i := i) (p := p) (s := s2) hi0 h1 hsm (by omega), if_neg (fun h9 => h9 q233_s), if_pos ⟨fun h9 => q233_b.1 (has_9.mp h9), q233_b.2⟩], rfl, hR105, hEI118, hER119, hi108, hi109⟩)
              · skip
                obtain ⟨I120, R121, q233_s, q233_b, rfl, hR122, hI123, hX124⟩ := q49
                have hi125 := (hI123 51 (by decide)).trans hl51
                have hi126 := (hI123 52 (by decide)).trans hl52
                have hi127 := (hI123 53 (by decide)).trans hl53
                have hF_128 := hF_41.mono (cIx hI123 (by decide)) (cRx hX124 (by decide))
                have hY_129 := hY_42.mono (cIx hI123 (by decide)) (cRx hX124 (by decide))
                have hP_130 := hP_43.mono (cIx hI123 (by decide)) (cRx hX124 (by decide))
                have hK_131 := hK_44.mono (cIx hI123 (by decide)) (cRx hX124 (by decide))
                have hX_132 := hX_45.mono (cIx hI123 (by decide)) (cRx hX124 (by decide))
                have hEI133 := hEI1.tr hI123 (by decide)
                have hER134 := hER46.tr hX124 (by decide)
                show pl _ _ _ (236, [(0, .ref m0), (2, .int 1), (3, .int (nI x)), (4, .int (nI (by2 f p1))), (5, .int (nI p)), (6, .int (nI s3)), (7, .int (nI i)), (8, .int (nI (by4 f (p + 2)))), (10, .int (nI 0))], [.int 0], M48) _
                refine ps_st (S' := (238, [(11, .int 0), (0, .ref m0), (2, .int 1), (3, .int (nI x)), (4, .int (nI (by2 f p1))), (5, .int (nI p)), (6, .int (nI s3)), (7, .int (nI i)), (8, .int (nI (by4 f (p + 2)))), (10, .int (nI 0))], [], M48)) rfl rfl rfl ?_
                refine ps_st (S' := (240, [(11, .int 0), (0, .ref m0), (2, .int 1), (3, .int (nI x)), (4, .int (nI (by2 f p1))), (5, .int (nI p)), (6, .int (nI s3)), (7, .int (nI i)), (8, .int (nI (by4 f (p + 2)))), (10, .int (nI 0))], [.int (nI s3)], M48)) rfl rfl rfl ?_
                refine ps_st (S' := (241, [(11, .int 0), (0, .ref m0), (2, .int 1), (3, .int (nI x)), (4, .int (nI (by2 f p1))), (5, .int (nI p)), (6, .int (nI s3)), (7, .int (nI i)), (8, .int (nI (by4 f (p + 2)))), (10, .int (nI 0))], [.int 1, .int (nI s3)], M48)) rfl rfl rfl ?_
                refine ps_st (S' := (243, [(11, .int 0), (0, .ref m0), (2, .int 1), (3, .int (nI x)), (4, .int (nI (by2 f p1))), (5, .int (nI p)), (6, .int (nI s3)), (7, .int (nI i)), (8, .int (nI (by4 f (p + 2)))), (10, .int (nI 0))], [.int (nI 0), .int 1, .int (nI s3)], M48)) rfl rfl rfl ?_
                refine ps_st (S' := (244, [(11, .int 0), (0, .ref m0), (2, .int 1), (3, .int (nI x)), (4, .int (nI (by2 f p1))), (5, .int (nI p)), (6, .int (nI s3)), (7, .int (nI i)), (8, .int (nI (by4 f (p + 2)))), (10, .int (nI 0))], [.int (1 <<< ((nI 0) &&& 31)), .int (nI s3)], M48)) rfl rfl rfl ?_
                refine ps_st (S' := (245, [(11, .int 0), (0, .ref m0), (2, .int 1), (3, .int (nI x)), (4, .int (nI (by2 f p1))), (5, .int (nI p)), (6, .int (nI s3)), (7, .int (nI i)), (8, .int (nI (by4 f (p + 2)))), (10, .int (nI 0))], [.int ((nI s3) ||| (1 <<< ((nI 0) &&& 31)))], M48)) rfl rfl rfl ?_
                rw [or_k s3 0 (by omega)]
                show pl _ _ _ (_, [(11, .int 0), (0, .ref m0), (2, .int 1), (3, .int (nI x)), (4, .int (nI (by2 f p1))), (5, .int (nI p)), (6, .int (nI s3)), (7, .int (nI i)), (8, .int (nI (by4 f (p + 2)))), (10, .int (nI 0))], [.int (nI (so s3 0))], M48) _
                refine ps_st (S' := (247, [(6, .int (nI (so s3 0))), (11, .int 0), (0, .ref m0), (2, .int 1), (3, .int (nI x)), (4, .int (nI (by2 f p1))), (5, .int (nI p)), (7, .int (nI i)), (8, .int (nI (by4 f (p + 2)))), (10, .int (nI 0))], [], M48)) rfl rfl rfl ?_
                refine ps_st (S' := (249, [(6, .int (nI (so s3 0))), (11, .int 0), (0, .ref m0), (2, .int 1), (3, .int (nI x)), (4, .int (nI (by2 f p1))), (5, .int (nI p)), (7, .int (nI i)), (8, .int (nI (by4 f (p + 2)))), (10, .int (nI 0))], [.int 0], M48)) rfl rfl rfl ?_
                refine ps_if (S1 := (261, [(0, .ref m0), (2, .int 1), (3, .int (nI x)), (4, .int (nI (by2 f p1))), (5, .int (nI p)), (6, .int (nI (so s3 0))), (7, .int (nI i)), (8, .int (nI (by4 f (p + 2)))), (11, .int 0)], [], M48)) (S2 := (252, [(6, .int (nI (so s3 0))), (11, .int 0), (0, .ref m0), (2, .int 1), (3, .int (nI x)), (4, .int (nI (by2 f p1))), (5, .int (nI p)), (7, .int (nI i)), (8, .int (nI (by4 f (p + 2)))), (10, .int (nI 0))], [], M48)) rfl rfl rfl (fun c_249 => ?_) (fun c_249 => ?_)
                rotate_left
                · exact absurd (by decide) (of_decide_eq_false c_249)
                refine ps_st (S' := (263, [(0, .ref m0), (2, .int 1), (3, .int (nI x)), (4, .int (nI (by2 f p1))), (5, .int (nI p)), (6, .int (nI (so s3 0))), (7, .int (nI i)), (8, .int (nI (by4 f (p + 2)))), (11, .int 0)], [.int 0], M48)) rfl rfl rfl ?_
                refine ps_if (S1 := (268, [(0, .ref m0), (2, .int 1), (3, .int (nI x)), (4, .int (nI (by2 f p1))), (5, .int (nI p)), (6, .int (nI (so s3 0))), (7, .int (nI i)), (8, .int (nI (by4 f (p + 2))))], [], M48)) (S2 := (266, [(0, .ref m0), (2, .int 1), (3, .int (nI x)), (4, .int (nI (by2 f p1))), (5, .int (nI p)), (6, .int (nI (so s3 0))), (7, .int (nI i)), (8, .int (nI (by4 f (p + 2)))), (11, .int 0)], [], M48)) rfl rfl rfl (fun c_263 => ?_) (fun c_263 => ?_)
                rotate_left
                · exact absurd (by decide) (of_decide_eq_false c_263)
                refine ps_st (S' := (270, [(0, .ref m0), (2, .int 1), (3, .int (nI x)), (4, .int (nI (by2 f p1))), (5, .int (nI p)), (6, .int (nI (so s3 0))), (7, .int (nI i)), (8, .int (nI (by4 f (p + 2))))], [.int (nI p)], M48)) rfl rfl rfl ?_
                refine ps_st (S' := (272, [(0, .ref m0), (2, .int 1), (3, .int (nI x)), (4, .int (nI (by2 f p1))), (5, .int (nI p)), (6, .int (nI (so s3 0))), (7, .int (nI i)), (8, .int (nI (by4 f (p + 2))))], [.int 6, .int (nI p)], M48)) rfl rfl rfl ?_
                refine ps_st (S' := (274, [(0, .ref m0), (2, .int 1), (3, .int (nI x)), (4, .int (nI (by2 f p1))), (5, .int (nI p)), (6, .int (nI (so s3 0))), (7, .int (nI i)), (8, .int (nI (by4 f (p + 2))))], [.int (nI (by4 f (p + 2))), .int 6, .int (nI p)], M48)) rfl rfl rfl ?_
                refine ps_st (S' := (275, [(0, .ref m0), (2, .int 1), (3, .int (nI x)), (4, .int (nI (by2 f p1))), (5, .int (nI p)), (6, .int (nI (so s3 0))), (7, .int (nI i)), (8, .int (nI (by4 f (p + 2))))], [.int (6 + (nI (by4 f (p + 2)))), .int (nI p)], M48)) rfl rfl rfl ?_
                rw [nI_add2 (p := 6) (k := by4 f (p + 2)) (x := 6) (y := (nI (by4 f (p + 2)))) rfl rfl (by omega)]
                show pl _ _ _ (_, [(0, .ref m0), (2, .int 1), (3, .int (nI x)), (4, .int (nI (by2 f p1))), (5, .int (nI p)), (6, .int (nI (so s3 0))), (7, .int (nI i)), (8, .int (nI (by4 f (p + 2))))], [.int (nI (6 + by4 f (p + 2))), .int (nI p)], M48) _
                refine ps_st (S' := (276, [(0, .ref m0), (2, .int 1), (3, .int (nI x)), (4, .int (nI (by2 f p1))), (5, .int (nI p)), (6, .int (nI (so s3 0))), (7, .int (nI i)), (8, .int (nI (by4 f (p + 2))))], [.int ((nI p) + (nI (6 + by4 f (p + 2))))], M48)) rfl rfl rfl ?_
                rw [nI_add1 (p := p) (k := 6 + by4 f (p + 2)) (x := (nI (6 + by4 f (p + 2)))) rfl (by omega)]
                rw [show nI (p + (6 + by4 f (p + 2))) = nI (p + 6 + by4 f (p + 2)) from congrArg nI (by omega)]
                show pl _ _ _ (_, [(0, .ref m0), (2, .int 1), (3, .int (nI x)), (4, .int (nI (by2 f p1))), (5, .int (nI p)), (6, .int (nI (so s3 0))), (7, .int (nI i)), (8, .int (nI (by4 f (p + 2))))], [.int (nI (p + 6 + by4 f (p + 2)))], M48) _
                refine ps_st (S' := (278, [(5, .int (nI (p + 6 + by4 f (p + 2)))), (0, .ref m0), (2, .int 1), (3, .int (nI x)), (4, .int (nI (by2 f p1))), (6, .int (nI (so s3 0))), (7, .int (nI i)), (8, .int (nI (by4 f (p + 2))))], [], M48)) rfl rfl rfl ?_
                refine ps_st (S' := (281, [(7, .int ((nI i) + 1)), (5, .int (nI (p + 6 + by4 f (p + 2)))), (0, .ref m0), (2, .int 1), (3, .int (nI x)), (4, .int (nI (by2 f p1))), (6, .int (nI (so s3 0))), (8, .int (nI (by4 f (p + 2))))], [], M48)) rfl rfl rfl ?_
                rw [nI_add1 (p := i) (k := 1) (x := 1) rfl (by omega)]
                show pl _ _ _ (_, [(7, .int (nI (i + 1))), (5, .int (nI (p + 6 + by4 f (p + 2)))), (0, .ref m0), (2, .int 1), (3, .int (nI x)), (4, .int (nI (by2 f p1))), (6, .int (nI (so s3 0))), (8, .int (nI (by4 f (p + 2))))], [], M48) _
                refine ps_st (S' := (18, [(0, .ref m0), (2, .int 1), (3, .int (nI x)), (4, .int (nI (by2 f p1))), (5, .int (nI (p + 6 + by4 f (p + 2)))), (6, .int (nI (so s3 0))), (7, .int (nI (i + 1)))], [], M48)) rfl rfl rfl ?_
                exact ih.1 (i + 1) (p + 6 + by4 f (p + 2)) (so s2 1) (so s3 0) M48 I120 R121 hR122 hEI133 hER134 hi125 hi126 hi127 hF_128 hY_129 hP_130 hK_131 hX_132 (by omega) (so_lt hl (by decide)) (by rw [sb_so, sb_so]; rfl) (hq7) (by
                    rw [← hs9, faS_k (i := i) (p := p) (s := s2) hi0 h1 hsm (by omega), if_neg (fun h9 => h9 q233_s), if_neg (fun h9 => (by rcases q233_b with h8 | h8; exact h9.1 (has_9.mpr h8); exact h9.2 h8))])
            · have c_198 : ¬ (¬ (nI (sb s3 0)) = 1) := of_decide_eq_false c_198
              have n_198 : sb s3 0 = 1 := (eq_nI (p := sb s3 0) (n := 1) (Nat.lt_trans (sb_lt _ _) (by decide)) (by decide)).mp (Decidable.not_not.mp c_198)
              refine ps_st (S' := (202, [(0, .ref m0), (2, .int 1), (3, .int (nI x)), (4, .int (nI (by2 f p1))), (5, .int (nI p)), (6, .int (nI s3)), (7, .int (nI i)), (8, .int (nI (by4 f (p + 2)))), (10, .int (nI 0))], [.ref m0], M37)) rfl rfl rfl ?_
              refine ps_st (S' := (204, [(0, .ref m0), (2, .int 1), (3, .int (nI x)), (4, .int (nI (by2 f p1))), (5, .int (nI p)), (6, .int (nI s3)), (7, .int (nI i)), (8, .int (nI (by4 f (p + 2)))), (10, .int (nI 0))], [.int 29, .ref m0], M37)) rfl rfl rfl ?_
              refine ps_st (S' := (206, [(0, .ref m0), (2, .int 1), (3, .int (nI x)), (4, .int (nI (by2 f p1))), (5, .int (nI p)), (6, .int (nI s3)), (7, .int (nI i)), (8, .int (nI (by4 f (p + 2)))), (10, .int (nI 0))], [.int (nI p), .int 29, .ref m0], M37)) rfl rfl rfl ?_
              refine pl_call (a := [.ref m0, .int 29, .int (nI p)]) (rest := []) rfl rfl rfl (rd_wrong (x1 := 29) (x2 := (nI p)) hR39) (fun v135 M136 q137 => ?_)
              obtain ⟨I138, R139, rfl, hR140, hI141, hX142, hi143, hi144⟩ := q137
              have hi145 := (hI141 51 (by decide)).trans hl51
              have hi146 := (hI141 52 (by decide)).trans hl52
              have hi147 := (hI141 53 (by decide)).trans hl53
              have hF_148 := hF_41.mono (cIx hI141 (by decide)) (cRx hX142 (by decide))
              have hY_149 := hY_42.mono (cIx hI141 (by decide)) (cRx hX142 (by decide))
              have hP_150 := hP_43.mono (cIx hI141 (by decide)) (cRx hX142 (by decide))
              have hK_151 := hK_44.mono (cIx hI141 (by decide)) (cRx hX142 (by decide))
              have hX_152 := hX_45.mono (cIx hI141 (by decide)) (cRx hX142 (by decide))
              have hEI153 := hEI1.tr hI141 (by decide)
              have hER154 := hER46.tr hX142 (by decide)
              show pl _ _ _ (209, [(0, .ref m0), (2, .int 1), (3, .int (nI x)), (4, .int (nI (by2 f p1))), (5, .int (nI p)), (6, .int (nI s3)), (7, .int (nI i)), (8, .int (nI (by4 f (p + 2)))), (10, .int (nI 0))], [.int 0], M136) _
              refine ps_st (S' := (210, [(0, .ref m0), (2, .int 1), (3, .int (nI x)), (4, .int (nI (by2 f p1))), (5, .int (nI p)), (6, .int (nI s3)), (7, .int (nI i)), (8, .int (nI (by4 f (p + 2)))), (10, .int (nI 0))], [], M136)) rfl rfl rfl ?_
              refine ps_st (S' := (211, [(0, .ref m0), (2, .int 1), (3, .int (nI x)), (4, .int (nI (by2 f p1))), (5, .int (nI p)), (6, .int (nI s3)), (7, .int (nI i)), (8, .int (nI (by4 f (p + 2)))), (10, .int (nI 0))], [.int (-1)], M136)) rfl rfl rfl ?_
              exact ps_ret rfl rfl (Or.inl ⟨(29, p), I138, R139, by
                  rw [← hs9, faS_29 (i := i) (p := p) (s := s2) hi0 h1 hsm (by omega)], rfl, hR140, hEI153, hER154, hi143, hi144⟩)
        · have c_86 : ¬ ((nI 10) ≤ (nI k)) := of_decide_eq_false c_86
          have n_86 : ¬ (10 ≤ k) := fun h9 => c_86 ((le_nI (p := 10) (n := k) (by decide) (by omega)).mpr h9)
          refine ps_st (S' := (90, [(0, .ref m0), (2, .int 1), (3, .int (nI x)), (4, .int (nI (by2 f p1))), (5, .int (nI p)), (6, .int (nI s3)), (7, .int (nI i)), (8, .int (nI (by4 f (p + 2)))), (9, .int (nI t)), (10, .int (gI (kb mj 1 (tX f n E (by2 f p)) k))), (11, .int (nI k))], [.ref m0], M1)) rfl rfl rfl ?_
          refine pr_ref (j := 63) (S' := (93, [(0, .ref m0), (2, .int 1), (3, .int (nI x)), (4, .int (nI (by2 f p1))), (5, .int (nI p)), (6, .int (nI s3)), (7, .int (nI i)), (8, .int (nI (by4 f (p + 2)))), (9, .int (nI t)), (10, .int (gI (kb mj 1 (tX f n E (by2 f p)) k))), (11, .int (nI k))], [.ref (q 63)], M1)) rfl hR1 rfl rfl ?_
          refine ps_st (S' := (95, [(0, .ref m0), (2, .int 1), (3, .int (nI x)), (4, .int (nI (by2 f p1))), (5, .int (nI p)), (6, .int (nI s3)), (7, .int (nI i)), (8, .int (nI (by4 f (p + 2)))), (9, .int (nI t)), (10, .int (gI (kb mj 1 (tX f n E (by2 f p)) k))), (11, .int (nI k))], [.int (nI k), .ref (q 63)], M1)) rfl rfl rfl ?_
          have hki_95 := kiN_lt k
          refine pr_ld (a := 63) (j := k) (y := (nI (kiN k))) (S' := (96, [(0, .ref m0), (2, .int 1), (3, .int (nI x)), (4, .int (nI (by2 f p1))), (5, .int (nI p)), (6, .int (nI s3)), (7, .int (nI i)), (8, .int (nI (by4 f (p + 2)))), (9, .int (nI t)), (10, .int (gI (kb mj 1 (tX f n E (by2 f p)) k))), (11, .int (nI k))], [.int (nI (kiN k))], M1)) rfl hR1 rfl (by omega) (fun _ => (hK1 k (by omega)).1) rfl (fun i1_95 => ?_)
          refine ps_st (S' := (97, [(0, .ref m0), (2, .int 1), (3, .int (nI x)), (4, .int (nI (by2 f p1))), (5, .int (nI p)), (6, .int (nI s3)), (7, .int (nI i)), (8, .int (nI (by4 f (p + 2)))), (9, .int (nI t)), (10, .int (gI (kb mj 1 (tX f n E (by2 f p)) k))), (11, .int (nI k))], [.int 1, .int (nI (kiN k))], M1)) rfl rfl rfl ?_
          refine ps_if2 (S1 := (134, [(0, .ref m0), (2, .int 1), (3, .int (nI x)), (4, .int (nI (by2 f p1))), (5, .int (nI p)), (6, .int (nI s3)), (7, .int (nI i)), (8, .int (nI (by4 f (p + 2)))), (9, .int (nI t)), (10, .int (gI (kb mj 1 (tX f n E (by2 f p)) k))), (11, .int (nI k))], [], M1)) (S2 := (100, [(0, .ref m0), (2, .int 1), (3, .int (nI x)), (4, .int (nI (by2 f p1))), (5, .int (nI p)), (6, .int (nI s3)), (7, .int (nI i)), (8, .int (nI (by4 f (p + 2)))), (9, .int (nI t)), (10, .int (gI (kb mj 1 (tX f n E (by2 f p)) k))), (11, .int (nI k))], [], M1)) rfl rfl rfl (fun c_97 => ?_) (fun c_97 => ?_)
          · have c_97 : ¬ (nI (kiN k)) = 1 := of_decide_eq_true c_97
            have n_97 : ¬ (kiN k = 1) := fun h9 => c_97 ((eq_nI (p := kiN k) (n := 1) (Nat.lt_trans (kiN_lt _) (by decide)) (by decide)).mpr h9)
            refine ps_st (S' := (137, [(11, .int ((nI k) + 1)), (0, .ref m0), (2, .int 1), (3, .int (nI x)), (4, .int (nI (by2 f p1))), (5, .int (nI p)), (6, .int (nI s3)), (7, .int (nI i)), (8, .int (nI (by4 f (p + 2)))), (9, .int (nI t)), (10, .int (gI (kb mj 1 (tX f n E (by2 f p)) k)))], [], M1)) rfl rfl rfl ?_
            rw [nI_add1 (p := k) (k := 1) (x := 1) rfl (by omega)]
            show pl _ _ _ (_, [(11, .int (nI (k + 1))), (0, .ref m0), (2, .int 1), (3, .int (nI x)), (4, .int (nI (by2 f p1))), (5, .int (nI p)), (6, .int (nI s3)), (7, .int (nI i)), (8, .int (nI (by4 f (p + 2)))), (9, .int (nI t)), (10, .int (gI (kb mj 1 (tX f n E (by2 f p)) k)))], [], M1) _
            refine ps_st (S' := (79, [(0, .ref m0), (2, .int 1), (3, .int (nI x)), (4, .int (nI (by2 f p1))), (5, .int (nI p)), (6, .int (nI s3)), (7, .int (nI i)), (8, .int (nI (by4 f (p + 2)))), (9, .int (nI t)), (10, .int (gI (kb mj 1 (tX f n E (by2 f p)) k))), (11, .int (nI (k + 1)))], [], M1)) rfl rfl rfl ?_
            have hkb : (gI (kb mj 1 (tX f n E (by2 f p)) k)) = gI (kb mj 1 (tX f n E (by2 f p)) (k + 1)) := by
              conv => rhs; unfold kb
              rw [if_neg (by omega)]
            rw [hkb]
            exact ih.2 (i) (p) (s2) (s3) (k + 1) (t) M1 I1 R1 hR1 hEI1 hER1 hl51 hl52 hl53 hF1 hY1 hP1 hK1 hX1 (hi0) (hl) (hb) (ha) (hs9) (by omega) (h1) (hsy)
          · have c_97 : ¬ (¬ (nI (kiN k)) = 1) := of_decide_eq_false c_97
            have n_97 : kiN k = 1 := (eq_nI (p := kiN k) (n := 1) (Nat.lt_trans (kiN_lt _) (by decide)) (by decide)).mp (Decidable.not_not.mp c_97)
            refine ps_st (S' := (101, [(0, .ref m0), (2, .int 1), (3, .int (nI x)), (4, .int (nI (by2 f p1))), (5, .int (nI p)), (6, .int (nI s3)), (7, .int (nI i)), (8, .int (nI (by4 f (p + 2)))), (9, .int (nI t)), (10, .int (gI (kb mj 1 (tX f n E (by2 f p)) k))), (11, .int (nI k))], [.ref m0], M1)) rfl rfl rfl ?_
            refine pr_int (j := 53) (S' := (104, [(0, .ref m0), (2, .int 1), (3, .int (nI x)), (4, .int (nI (by2 f p1))), (5, .int (nI p)), (6, .int (nI s3)), (7, .int (nI i)), (8, .int (nI (by4 f (p + 2)))), (9, .int (nI t)), (10, .int (gI (kb mj 1 (tX f n E (by2 f p)) k))), (11, .int (nI k))], [.int (nI mj)], M1)) rfl hR1 rfl hl53 rfl ?_
            refine ps_st (S' := (105, [(0, .ref m0), (2, .int 1), (3, .int (nI x)), (4, .int (nI (by2 f p1))), (5, .int (nI p)), (6, .int (nI s3)), (7, .int (nI i)), (8, .int (nI (by4 f (p + 2)))), (9, .int (nI t)), (10, .int (gI (kb mj 1 (tX f n E (by2 f p)) k))), (11, .int (nI k))], [.ref m0, .int (nI mj)], M1)) rfl rfl rfl ?_
            refine pr_ref (j := 64) (S' := (108, [(0, .ref m0), (2, .int 1), (3, .int (nI x)), (4, .int (nI (by2 f p1))), (5, .int (nI p)), (6, .int (nI s3)), (7, .int (nI i)), (8, .int (nI (by4 f (p + 2)))), (9, .int (nI t)), (10, .int (gI (kb mj 1 (tX f n E (by2 f p)) k))), (11, .int (nI k))], [.ref (q 64), .int (nI mj)], M1)) rfl hR1 rfl rfl ?_
            refine ps_st (S' := (110, [(0, .ref m0), (2, .int 1), (3, .int (nI x)), (4, .int (nI (by2 f p1))), (5, .int (nI p)), (6, .int (nI s3)), (7, .int (nI i)), (8, .int (nI (by4 f (p + 2)))), (9, .int (nI t)), (10, .int (gI (kb mj 1 (tX f n E (by2 f p)) k))), (11, .int (nI k))], [.int (nI k), .ref (q 64), .int (nI mj)], M1)) rfl rfl rfl ?_
            have hkf_110 := kfN_lt k
            refine pr_ld (a := 64) (j := k) (y := (nI (kfN k))) (S' := (111, [(0, .ref m0), (2, .int 1), (3, .int (nI x)), (4, .int (nI (by2 f p1))), (5, .int (nI p)), (6, .int (nI s3)), (7, .int (nI i)), (8, .int (nI (by4 f (p + 2)))), (9, .int (nI t)), (10, .int (gI (kb mj 1 (tX f n E (by2 f p)) k))), (11, .int (nI k))], [.int (nI (kfN k)), .int (nI mj)], M1)) rfl hR1 rfl (by omega) (fun _ => (hK1 k (by omega)).2) rfl (fun i1_110 => ?_)
            refine ps_if2 (S1 := (134, [(0, .ref m0), (2, .int 1), (3, .int (nI x)), (4, .int (nI (by2 f p1))), (5, .int (nI p)), (6, .int (nI s3)), (7, .int (nI i)), (8, .int (nI (by4 f (p + 2)))), (9, .int (nI t)), (10, .int (gI (kb mj 1 (tX f n E (by2 f p)) k))), (11, .int (nI k))], [], M1)) (S2 := (114, [(0, .ref m0), (2, .int 1), (3, .int (nI x)), (4, .int (nI (by2 f p1))), (5, .int (nI p)), (6, .int (nI s3)), (7, .int (nI i)), (8, .int (nI (by4 f (p + 2)))), (9, .int (nI t)), (10, .int (gI (kb mj 1 (tX f n E (by2 f p)) k))), (11, .int (nI k))], [], M1)) rfl rfl rfl (fun c_111 => ?_) (fun c_111 => ?_)
            · have c_111 : (nI mj) < (nI (kfN k)) := of_decide_eq_true c_111
              have n_111 : mj < kfN k := (lt_nI (p := mj) (n := kfN k) (by omega) (Nat.lt_trans (kfN_lt _) (by decide))).mp c_111
              refine ps_st (S' := (137, [(11, .int ((nI k) + 1)), (0, .ref m0), (2, .int 1), (3, .int (nI x)), (4, .int (nI (by2 f p1))), (5, .int (nI p)), (6, .int (nI s3)), (7, .int (nI i)), (8, .int (nI (by4 f (p + 2)))), (9, .int (nI t)), (10, .int (gI (kb mj 1 (tX f n E (by2 f p)) k)))], [], M1)) rfl rfl rfl ?_
              rw [nI_add1 (p := k) (k := 1) (x := 1) rfl (by omega)]
              show pl _ _ _ (_, [(11, .int (nI (k + 1))), (0, .ref m0), (2, .int 1), (3, .int (nI x)), (4, .int (nI (by2 f p1))), (5, .int (nI p)), (6, .int (nI s3)), (7, .int (nI i)), (8, .int (nI (by4 f (p + 2)))), (9, .int (nI t)), (10, .int (gI (kb mj 1 (tX f n E (by2 f p)) k)))], [], M1) _
              refine ps_st (S' := (79, [(0, .ref m0), (2, .int 1), (3, .int (nI x)), (4, .int (nI (by2 f p1))), (5, .int (nI p)), (6, .int (nI s3)), (7, .int (nI i)), (8, .int (nI (by4 f (p + 2)))), (9, .int (nI t)), (10, .int (gI (kb mj 1 (tX f n E (by2 f p)) k))), (11, .int (nI (k + 1)))], [], M1)) rfl rfl rfl ?_
              have hkb : (gI (kb mj 1 (tX f n E (by2 f p)) k)) = gI (kb mj 1 (tX f n E (by2 f p)) (k + 1)) := by
                conv => rhs; unfold kb
                rw [if_neg (by omega)]
              rw [hkb]
              exact ih.2 (i) (p) (s2) (s3) (k + 1) (t) M1 I1 R1 hR1 hEI1 hER1 hl51 hl52 hl53 hF1 hY1 hP1 hK1 hX1 (hi0) (hl) (hb) (ha) (hs9) (by omega) (h1) (hsy)
            · have c_111 : ¬ ((nI mj) < (nI (kfN k))) := of_decide_eq_false c_111
              have n_111 : ¬ (mj < kfN k) := fun h9 => c_111 ((lt_nI (p := mj) (n := kfN k) (by omega) (Nat.lt_trans (kfN_lt _) (by decide))).mpr h9)
              refine ps_st (S' := (115, [(0, .ref m0), (2, .int 1), (3, .int (nI x)), (4, .int (nI (by2 f p1))), (5, .int (nI p)), (6, .int (nI s3)), (7, .int (nI i)), (8, .int (nI (by4 f (p + 2)))), (9, .int (nI t)), (10, .int (gI (kb mj 1 (tX f n E (by2 f p)) k))), (11, .int (nI k))], [.ref m0], M1)) rfl rfl rfl ?_
              refine ps_st (S' := (117, [(0, .ref m0), (2, .int 1), (3, .int (nI x)), (4, .int (nI (by2 f p1))), (5, .int (nI p)), (6, .int (nI s3)), (7, .int (nI i)), (8, .int (nI (by4 f (p + 2)))), (9, .int (nI t)), (10, .int (gI (kb mj 1 (tX f n E (by2 f p)) k))), (11, .int (nI k))], [.int (nI t), .ref m0], M1)) rfl rfl rfl ?_
              refine ps_st (S' := (118, [(0, .ref m0), (2, .int 1), (3, .int (nI x)), (4, .int (nI (by2 f p1))), (5, .int (nI p)), (6, .int (nI s3)), (7, .int (nI i)), (8, .int (nI (by4 f (p + 2)))), (9, .int (nI t)), (10, .int (gI (kb mj 1 (tX f n E (by2 f p)) k))), (11, .int (nI k))], [.ref m0, .int (nI t), .ref m0], M1)) rfl rfl rfl ?_
              refine pr_ref (j := 62) (S' := (121, [(0, .ref m0), (2, .int 1), (3, .int (nI x)), (4, .int (nI (by2 f p1))), (5, .int (nI p)), (6, .int (nI s3)), (7, .int (nI i)), (8, .int (nI (by4 f (p + 2)))), (9, .int (nI t)), (10, .int (gI (kb mj 1 (tX f n E (by2 f p)) k))), (11, .int (nI k))], [.ref (q 62), .int (nI t), .ref m0], M1)) rfl hR1 rfl rfl ?_
              refine ps_st (S' := (123, [(0, .ref m0), (2, .int 1), (3, .int (nI x)), (4, .int (nI (by2 f p1))), (5, .int (nI p)), (6, .int (nI s3)), (7, .int (nI i)), (8, .int (nI (by4 f (p + 2)))), (9, .int (nI t)), (10, .int (gI (kb mj 1 (tX f n E (by2 f p)) k))), (11, .int (nI k))], [.int (nI k), .ref (q 62), .int (nI t), .ref m0], M1)) rfl rfl rfl ?_
              refine pr_kn (j := k) (S' := (124, [(0, .ref m0), (2, .int 1), (3, .int (nI x)), (4, .int (nI (by2 f p1))), (5, .int (nI p)), (6, .int (nI s3)), (7, .int (nI i)), (8, .int (nI (by4 f (p + 2)))), (9, .int (nI t)), (10, .int (gI (kb mj 1 (tX f n E (by2 f p)) k))), (11, .int (nI k))], [.ref (g.2.1 (15 + k)), .int (nI t), .ref m0], M1)) rfl hR1 (by omega) rfl ?_
              refine pl_call (a := [.ref m0, .int (nI t), .ref (g.2.1 (15 + k))]) (rest := []) rfl rfl rfl (rd_is (tx := tx) (cN := cN) (A := A) (s := t) (l := (tX f n E (by2 f p))) (lk := (15 + k)) hR1 hY1 (hsy) (⟨by omega, by omega⟩)) (fun v155 M156 q157 => ?_)
              obtain ⟨rfl, rfl⟩ := q157
              show pl _ _ _ (127, [(0, .ref m0), (2, .int 1), (3, .int (nI x)), (4, .int (nI (by2 f p1))), (5, .int (nI p)), (6, .int (nI s3)), (7, .int (nI i)), (8, .int (nI (by4 f (p + 2)))), (9, .int (nI t)), (10, .int (gI (kb mj 1 (tX f n E (by2 f p)) k))), (11, .int (nI k))], [.int (nI (eqN (tX f n E (by2 f p)) (ltx (15 + k))))], M1) _
              refine ps_if (S1 := (134, [(0, .ref m0), (2, .int 1), (3, .int (nI x)), (4, .int (nI (by2 f p1))), (5, .int (nI p)), (6, .int (nI s3)), (7, .int (nI i)), (8, .int (nI (by4 f (p + 2)))), (9, .int (nI t)), (10, .int (gI (kb mj 1 (tX f n E (by2 f p)) k))), (11, .int (nI k))], [], M1)) (S2 := (130, [(0, .ref m0), (2, .int 1), (3, .int (nI x)), (4, .int (nI (by2 f p1))), (5, .int (nI p)), (6, .int (nI s3)), (7, .int (nI i)), (8, .int (nI (by4 f (p + 2)))), (9, .int (nI t)), (10, .int (gI (kb mj 1 (tX f n E (by2 f p)) k))), (11, .int (nI k))], [], M1)) rfl rfl rfl (fun c_127 => ?_) (fun c_127 => ?_)
              · have c_127 : (nI (eqN (tX f n E (by2 f p)) (ltx (15 + k)))) = 0 := of_decide_eq_true c_127
                have n_127 : eqN (tX f n E (by2 f p)) (ltx (15 + k)) = 0 := (eq_nI (p := eqN (tX f n E (by2 f p)) (ltx (15 + k))) (n := 0) (Nat.lt_trans (le1_eq _ _) (by decide)) (by decide)).mp c_127
                refine ps_st (S' := (137, [(11, .int ((nI k) + 1)), (0, .ref m0), (2, .int 1), (3, .int (nI x)), (4, .int (nI (by2 f p1))), (5, .int (nI p)), (6, .int (nI s3)), (7, .int (nI i)), (8, .int (nI (by4 f (p + 2)))), (9, .int (nI t)), (10, .int (gI (kb mj 1 (tX f n E (by2 f p)) k)))], [], M1)) rfl rfl rfl ?_
                rw [nI_add1 (p := k) (k := 1) (x := 1) rfl (by omega)]
                show pl _ _ _ (_, [(11, .int (nI (k + 1))), (0, .ref m0), (2, .int 1), (3, .int (nI x)), (4, .int (nI (by2 f p1))), (5, .int (nI p)), (6, .int (nI s3)), (7, .int (nI i)), (8, .int (nI (by4 f (p + 2)))), (9, .int (nI t)), (10, .int (gI (kb mj 1 (tX f n E (by2 f p)) k)))], [], M1) _
                refine ps_st (S' := (79, [(0, .ref m0), (2, .int 1), (3, .int (nI x)), (4, .int (nI (by2 f p1))), (5, .int (nI p)), (6, .int (nI s3)), (7, .int (nI i)), (8, .int (nI (by4 f (p + 2)))), (9, .int (nI t)), (10, .int (gI (kb mj 1 (tX f n E (by2 f p)) k))), (11, .int (nI (k + 1)))], [], M1)) rfl rfl rfl ?_
                have hkb : (gI (kb mj 1 (tX f n E (by2 f p)) k)) = gI (kb mj 1 (tX f n E (by2 f p)) (k + 1)) := by
                  conv => rhs; unfold kb
                  rw [if_neg (by omega)]
                rw [hkb]
                exact ih.2 (i) (p) (s2) (s3) (k + 1) (t) M1 I1 R1 hR1 hEI1 hER1 hl51 hl52 hl53 hF1 hY1 hP1 hK1 hX1 (hi0) (hl) (hb) (ha) (hs9) (by omega) (h1) (hsy)
              · have c_127 : ¬ ((nI (eqN (tX f n E (by2 f p)) (ltx (15 + k)))) = 0) := of_decide_eq_false c_127
                have n_127 : ¬ (eqN (tX f n E (by2 f p)) (ltx (15 + k)) = 0) := fun h9 => c_127 ((eq_nI (p := eqN (tX f n E (by2 f p)) (ltx (15 + k))) (n := 0) (Nat.lt_trans (le1_eq _ _) (by decide)) (by decide)).mpr h9)
                refine ps_st (S' := (132, [(0, .ref m0), (2, .int 1), (3, .int (nI x)), (4, .int (nI (by2 f p1))), (5, .int (nI p)), (6, .int (nI s3)), (7, .int (nI i)), (8, .int (nI (by4 f (p + 2)))), (9, .int (nI t)), (10, .int (gI (kb mj 1 (tX f n E (by2 f p)) k))), (11, .int (nI k))], [.int (nI k)], M1)) rfl rfl rfl ?_
                refine ps_st (S' := (134, [(0, .ref m0), (2, .int 1), (3, .int (nI x)), (4, .int (nI (by2 f p1))), (5, .int (nI p)), (6, .int (nI s3)), (7, .int (nI i)), (8, .int (nI (by4 f (p + 2)))), (9, .int (nI t)), (10, .int (nI k)), (11, .int (nI k))], [], M1)) rfl rfl rfl ?_
                refine ps_st (S' := (137, [(11, .int ((nI k) + 1)), (0, .ref m0), (2, .int 1), (3, .int (nI x)), (4, .int (nI (by2 f p1))), (5, .int (nI p)), (6, .int (nI s3)), (7, .int (nI i)), (8, .int (nI (by4 f (p + 2)))), (9, .int (nI t)), (10, .int (nI k))], [], M1)) rfl rfl rfl ?_
                rw [nI_add1 (p := k) (k := 1) (x := 1) rfl (by omega)]
                show pl _ _ _ (_, [(11, .int (nI (k + 1))), (0, .ref m0), (2, .int 1), (3, .int (nI x)), (4, .int (nI (by2 f p1))), (5, .int (nI p)), (6, .int (nI s3)), (7, .int (nI i)), (8, .int (nI (by4 f (p + 2)))), (9, .int (nI t)), (10, .int (nI k))], [], M1) _
                refine ps_st (S' := (79, [(0, .ref m0), (2, .int 1), (3, .int (nI x)), (4, .int (nI (by2 f p1))), (5, .int (nI p)), (6, .int (nI s3)), (7, .int (nI i)), (8, .int (nI (by4 f (p + 2)))), (9, .int (nI t)), (10, .int (nI k)), (11, .int (nI (k + 1)))], [], M1)) rfl rfl rfl ?_
                have hkb : (nI k) = gI (kb mj 1 (tX f n E (by2 f p)) (k + 1)) := by
                  conv => rhs; unfold kb
                  rw [if_pos ⟨by omega, by omega, by omega⟩]
                  rfl
                rw [hkb]
                exact ih.2 (i) (p) (s2) (s3) (k + 1) (t) M1 I1 R1 hR1 hEI1 hER1 hl51 hl52 hl53 hF1 hY1 hP1 hK1 hX1 (hi0) (hl) (hb) (ha) (hs9) (by omega) (h1) (hsy)
  refine ps_st (S' := (1, [(0, .ref m0), (1, .int (nI p1)), (2, .int 1), (3, .int (nI x))], [.ref m0], M)) rfl rfl rfl ?_
  refine ps_st (S' := (2, [(0, .ref m0), (1, .int (nI p1)), (2, .int 1), (3, .int (nI x))], [.int (nI p1), .ref m0], M)) rfl rfl rfl ?_
  refine pl_call (a := [.ref m0, .int (nI p1)]) (rest := []) rfl rfl rfl (rd_u2 (n := n) (f := f) (p := p1) hR hF (by omega)) (fun v158 M159 q160 => ?_)
  obtain ⟨rfl, rfl⟩ := q160
  show pl _ _ _ (5, [(0, .ref m0), (1, .int (nI p1)), (2, .int 1), (3, .int (nI x))], [.int (nI (by2 f p1))], M) _
  have hu_2 := by2_lt f p1
  refine ps_st (S' := (7, [(4, .int (nI (by2 f p1))), (0, .ref m0), (1, .int (nI p1)), (2, .int 1), (3, .int (nI x))], [], M)) rfl rfl rfl ?_
  refine ps_st (S' := (8, [(4, .int (nI (by2 f p1))), (0, .ref m0), (1, .int (nI p1)), (2, .int 1), (3, .int (nI x))], [.int (nI p1)], M)) rfl rfl rfl ?_
  refine ps_st (S' := (9, [(4, .int (nI (by2 f p1))), (0, .ref m0), (1, .int (nI p1)), (2, .int 1), (3, .int (nI x))], [.int 2, .int (nI p1)], M)) rfl rfl rfl ?_
  refine ps_st (S' := (10, [(4, .int (nI (by2 f p1))), (0, .ref m0), (1, .int (nI p1)), (2, .int 1), (3, .int (nI x))], [.int ((nI p1) + 2)], M)) rfl rfl rfl ?_
  rw [nI_add1 (p := p1) (k := 2) (x := 2) rfl (by omega)]
  show pl _ _ _ (_, [(4, .int (nI (by2 f p1))), (0, .ref m0), (1, .int (nI p1)), (2, .int 1), (3, .int (nI x))], [.int (nI (p1 + 2))], M) _
  refine ps_st (S' := (12, [(5, .int (nI (p1 + 2))), (4, .int (nI (by2 f p1))), (0, .ref m0), (1, .int (nI p1)), (2, .int 1), (3, .int (nI x))], [], M)) rfl rfl rfl ?_
  refine ps_st (S' := (13, [(5, .int (nI (p1 + 2))), (4, .int (nI (by2 f p1))), (0, .ref m0), (1, .int (nI p1)), (2, .int 1), (3, .int (nI x))], [.int 0], M)) rfl rfl rfl ?_
  refine ps_st (S' := (15, [(6, .int 0), (5, .int (nI (p1 + 2))), (4, .int (nI (by2 f p1))), (0, .ref m0), (1, .int (nI p1)), (2, .int 1), (3, .int (nI x))], [], M)) rfl rfl rfl ?_
  refine ps_st (S' := (16, [(6, .int 0), (5, .int (nI (p1 + 2))), (4, .int (nI (by2 f p1))), (0, .ref m0), (1, .int (nI p1)), (2, .int 1), (3, .int (nI x))], [.int 0], M)) rfl rfl rfl ?_
  refine ps_st (S' := (18, [(0, .ref m0), (2, .int 1), (3, .int (nI x)), (4, .int (nI (by2 f p1))), (5, .int (nI (p1 + 2))), (6, .int 0), (7, .int 0)], [], M)) rfl rfl rfl ?_
  exact (LL kf).1 (0) (p1 + 2) (0) (0) M I R hR hEI hER hi51 hi52 hi53 hF hY hP hK hX (by omega) (by decide) (rfl) (hat) (rfl)
end
section
/-! the class's attributes, as the reference checks them (laid by wip/p4/e15.py) -/

section BRS
variable {f : Nat → Int32} {n : Nat} {E : List (Nat × Nat)} {x p s : Nat}
theorem br_5 : brS f n E x (4 + 1) p s = if inA f E (p + 6 + 2) (by2 f (p + 6)) 0 = 0 then some (.inl 33) else none := by
  unfold brS
  rw [if_pos (by decide)]
theorem br_6 : brS f n E x (5 + 1) p s = if bsA f E (by2 f (p + 6)) (p + 6 + 2) = 0 then some (.inl 38) else none := by
  unfold brS
  rw [if_neg (by decide), if_neg (by decide), if_neg (by decide), if_neg (by decide), if_neg (by decide), if_pos (by decide)]
theorem br_7 : brS f n E x (6 + 1) p s = if tg f E (by2 f (p + 6)) = 7 ∧ sb s 8 = 0 then none else some (.inl 34) := by
  unfold brS
  rw [if_neg (by decide), if_pos (by decide)]
theorem br_8 : brS f n E x (7 + 1) p s = if ¬ clA f E (p + 6 + 2) (by2 f (p + 6)) 0 = 0 ∧ sb s 7 = 0 then none else some (.inl 35) := by
  unfold brS
  rw [if_neg (by decide), if_neg (by decide), if_pos (by decide)]
theorem br_10 : brS f n E x (9 + 1) p s = if ¬ clA f E (p + 6 + 2) (by2 f (p + 6)) 0 = 0 ∧ hasN x 16 = 0 then none else some (.inl 36) := by
  unfold brS
  rw [if_neg (by decide), if_neg (by decide), if_neg (by decide), if_pos (by decide)]
theorem br_9 : brS f n E x (8 + 1) p s = match rcS f n E p (by2 f (p + 6)) (p + 6 + 2) with
    | none => none
    | some e => some (.inr e) := by
  unfold brS
  rw [if_neg (by decide), if_neg (by decide), if_neg (by decide), if_neg (by decide), if_pos (by decide)]
  rfl
theorem br_9s {e9 : Nat × Nat} (h : rcS f n E p (by2 f (p + 6)) (p + 6 + 2) = some e9) : brS f n E x (8 + 1) p s = some (.inr e9) := by
  rw [br_9, h]
theorem br_9n (h : rcS f n E p (by2 f (p + 6)) (p + 6 + 2) = none) : brS f n E x (8 + 1) p s = none := by
  rw [br_9, h]
end BRS
theorem sb_0 {k : Nat} : sb 0 k = 0 := by
  unfold sb
  rw [Nat.zero_testBit]
  rfl
theorem kb_4 {mj : Nat} {l : List Nat} : kb mj 4 l 10 = if 61 ≤ mj ∧ ¬ eqN l (ltx 24) = 0 then some 9 else if 60 ≤ mj ∧ ¬ eqN l (ltx 23) = 0 then some 8 else if 55 ≤ mj ∧ ¬ eqN l (ltx 22) = 0 then some 7 else if 55 ≤ mj ∧ ¬ eqN l (ltx 21) = 0 then some 6 else if 51 ≤ mj ∧ ¬ eqN l (ltx 20) = 0 then some 5 else if ¬ eqN l (ltx 19) = 0 then some 4 else none := by
  simp only [kb, kiN, kfN]
  simp
theorem lt_6 : ltx 3 = ltx 19 ∧ ltx 4 = ltx 20 ∧ ltx 5 = ltx 21 ∧ ltx 6 = ltx 22 ∧ ltx 7 = ltx 23 ∧ ltx 8 = ltx 24 := by decide +kernel
theorem eqd : ∀ a, a < 6 → ∀ b, b < 6 → eqN (ltx (19 + a)) (ltx (19 + b)) = if a = b then 1 else 0 := by decide +kernel
def ckL (mj : Nat) (l : List Nat) : Nat := if ¬ eqN l (ltx 19) = 0 then 5 else if 51 ≤ mj ∧ ¬ eqN l (ltx 20) = 0 then 6 else if 55 ≤ mj ∧ ¬ eqN l (ltx 21) = 0 then 7 else
  if 55 ≤ mj ∧ ¬ eqN l (ltx 22) = 0 then 8 else if 60 ≤ mj ∧ ¬ eqN l (ltx 23) = 0 then 9 else if 61 ≤ mj ∧ ¬ eqN l (ltx 24) = 0 then 10 else 0
theorem ck_L {f : Nat → Int32} {n mj x : Nat} {E : List (Nat × Nat)} : ckN f n E mj x = ckL mj (tX f n E x) := by
  unfold ckN ckL
  rw [lt_6.1, lt_6.2.1, lt_6.2.2.1, lt_6.2.2.2.1, lt_6.2.2.2.2.1, lt_6.2.2.2.2.2]
theorem ck_one {mj a : Nat} (ha : a < 6) : ∀ b, b < 6 → ¬ a = b → eqN (ltx (19 + a)) (ltx (19 + b)) = 0 := fun b hb h => by rw [eqd a ha b hb, if_neg h]
theorem ck_kb {mj : Nat} {l : List Nat} : (kb mj 4 l 10 = none ∧ ckL mj l = 0) ∨ ∃ w, kb mj 4 l 10 = some w ∧ (4 ≤ w ∧ w ≤ 9) ∧ ckL mj l = w + 1 := by
  have hz : (∀ b, b < 6 → eqN l (ltx (19 + b)) = 0) ∨ ∃ a, a < 6 ∧ ∀ b, b < 6 → eqN l (ltx (19 + b)) = if a = b then 1 else 0 := by
    by_cases h : ∃ a, a < 6 ∧ l = ltx (19 + a)
    · obtain ⟨a, ha, e⟩ := h
      exact Or.inr ⟨a, ha, fun b hb => by rw [e]; exact eqd a ha b hb⟩
    · exact Or.inl (fun b hb => by unfold eqN; rw [if_neg (fun e => h ⟨b, hb, e⟩)])
  rw [kb_4]
  unfold ckL
  rcases hz with hz | ⟨a, ha, hz⟩
  · have z0 := hz 0 (by decide); have z1 := hz 1 (by decide); have z2 := hz 2 (by decide); have z3 := hz 3 (by decide); have z4 := hz 4 (by decide); have z5 := hz 5 (by decide)
    simp only [Nat.add_zero, Nat.reduceAdd] at z0 z1 z2 z3 z4 z5
    exact Or.inl (by simp [z0, z1, z2, z3, z4, z5])
  · have z0 := hz 0 (by decide); have z1 := hz 1 (by decide); have z2 := hz 2 (by decide); have z3 := hz 3 (by decide); have z4 := hz 4 (by decide); have z5 := hz 5 (by decide)
    simp only [Nat.add_zero, Nat.reduceAdd] at z0 z1 z2 z3 z4 z5
    rw [z0, z1, z2, z3, z4, z5]
    rcases (show a = 0 ∨ a = 1 ∨ a = 2 ∨ a = 3 ∨ a = 4 ∨ a = 5 by omega) with rfl | rfl | rfl | rfl | rfl | rfl
    · exact Or.inr ⟨4, by simp, by omega, by simp⟩
    · by_cases hm : 51 ≤ mj
      · exact Or.inr ⟨5, by simp [hm], by omega, by simp [hm]⟩
      · exact Or.inl (by simp [hm])
    · by_cases hm : 55 ≤ mj
      · exact Or.inr ⟨6, by simp [hm], by omega, by simp [hm]⟩
      · exact Or.inl (by simp [hm])
    · by_cases hm : 55 ≤ mj
      · exact Or.inr ⟨7, by simp [hm], by omega, by simp [hm]⟩
      · exact Or.inl (by simp [hm])
    · by_cases hm : 60 ≤ mj
      · exact Or.inr ⟨8, by simp [hm], by omega, by simp [hm]⟩
      · exact Or.inl (by simp [hm])
    · by_cases hm : 61 ≤ mj
      · exact Or.inr ⟨9, by simp [hm], by omega, by simp [hm]⟩
      · exact Or.inl (by simp [hm])
theorem ck_y {f : Nat → Int32} {n mj x : Nat} {E : List (Nat × Nat)} (h : ¬ (gI (kb mj 4 (tX f n E x) 10) < 0)) : ∃ w, kb mj 4 (tX f n E x) 10 = some w ∧ (4 ≤ w ∧ w ≤ 9) ∧ ckN f n E mj x = w + 1 := by
  rw [ck_L]
  rcases ck_kb (mj := mj) (l := tX f n E x) with h9 | h9
  · rw [h9.1] at h
    exact absurd (by decide) h
  · exact h9
theorem ck_n {f : Nat → Int32} {n mj x : Nat} {E : List (Nat × Nat)} (h : gI (kb mj 4 (tX f n E x) 10) < 0) : ckN f n E mj x = 0 := by
  rw [ck_L]
  rcases ck_kb (mj := mj) (l := tX f n E x) with h9 | ⟨w, h8, h7, h6⟩
  · exact h9.2
  · rw [h8] at h
    exfalso
    have h1 : nI 0 ≤ nI w := (le_nI (p := 0) (n := w) (by decide) (by omega)).mpr (Nat.zero_le _)
    have h2 : nI w < nI 0 := h
    have h3 := (lt_nI (p := w) (n := 0) (by omega) (by decide)).mp h2
    omega
section CLS
variable {f : Nat → Int32} {n : Nat} {E : List (Nat × Nat)} {x mj c i p s bc w : Nat}
theorem clS_28 (h : i < c) (ht : ¬ tg f E (by2 f p) = 1) : clS f n E x mj (c - i) p s bc = .inl (28, p) := by
  rw [clS_st h, show nwS f E s (ckN f n E mj (by2 f p)) p = .inl (28, p) by unfold nwS; rw [if_pos ht]]
theorem clS_29 (h : i < c) (ht : tg f E (by2 f p) = 1) (hk : ckN f n E mj (by2 f p) = w + 1) (hw : 4 ≤ w) (hs : ¬ sb s (w + 1) = 0) : clS f n E x mj (c - i) p s bc = .inl (29, p) := by
  rw [clS_st h, hk, show nwS f E s (w + 1) p = .inl (29, p) by unfold nwS; rw [if_neg (fun h9 => h9 ht), if_neg (by omega), if_pos hs]]
theorem clS_u (h : i < c) (ht : tg f E (by2 f p) = 1) (hk : ckN f n E mj (by2 f p) = 0) : clS f n E x mj (c - i) p s bc = clS f n E x mj (c - (i + 1)) (p + 6 + by4 f (p + 2)) s bc := by
  rw [clS_st h, hk, show nwS f E s 0 p = .inr s by unfold nwS; rw [if_neg (fun h9 => h9 ht), if_pos rfl]]
  dsimp only
  rw [if_neg (fun h9 => h9.1 rfl), show brS f n E x 0 p s = none by unfold brS; rfl]
  rfl
theorem clS_k {s3 : Nat} (h : i < c) (ht : tg f E (by2 f p) = 1) (hk : ckN f n E mj (by2 f p) = w + 1) (hs : sb s3 w = 0) (hq : sb s3 w = sb s (w + 1)) : clS f n E x mj (c - i) p s bc = if ¬ s_fe f (w + 1) (p + 6) (p + 6 + by4 f (p + 2)) = some (p + 6 + by4 f (p + 2)) then .inl (30, p) else
    match brS f n E x (w + 1) p (so s (w + 1)) with
      | some (.inl r9) => .inl (r9, p)
      | some (.inr e) => .inl e
      | none => clS f n E x mj (c - (i + 1)) (p + 6 + by4 f (p + 2)) (so s (w + 1)) (if w = 5 then by2 f (p + 6) else bc) := by
  rw [clS_st h, hk, show nwS f E s (w + 1) p = .inr (so s (w + 1)) by unfold nwS; rw [if_neg (fun h9 => h9 ht), if_neg (by omega), if_neg (fun h9 => h9 (by omega))]]
  have h5 : (if w + 1 = 6 then by2 f (p + 6) else bc) = (if w = 5 then by2 f (p + 6) else bc) := by
    by_cases h9 : w = 5
    · rw [if_pos h9, if_pos (by omega)]
    · rw [if_neg h9, if_neg (by omega)]
  rw [← h5]
  dsimp only
  by_cases h4 : ¬ s_fe f (w + 1) (p + 6) (p + 6 + by4 f (p + 2)) = some (p + 6 + by4 f (p + 2))
  · rw [if_pos h4, if_pos ⟨by omega, h4⟩]
  · rw [if_neg h4, if_neg (fun h9 => h4 h9.2)]
    rfl
end CLS
set_option maxHeartbeats 1000000 in
theorem rd_attrK {g : xe_G} {m0 : Nat} {q : Nat → Nat} {z : Nat × Nat} {I : rI} {R : rR} {M : mi_H} {n : Nat} {f : Nat → Int32} {tx : List (List Nat)} {cN : Nat} {A : Nat → Nat} {N mj : Nat} {E : List (Nat × Nat)} {p e x s3 s2 fl w nb : Nat} {t : Int32} {n5 n8 n10 : Nat} {n7 n9 : Int32} (hR : RS g m0 q z I R M) (hi51 : I 51 = some 0) (hi52 : I 52 = some (nI N)) (hi53 : I 53 = some (nI mj)) (hi58 : I 58 = some (nI fl)) (hi71 : I 71 = some (nI nb)) (hi65 : I 65 = some (nI n5)) (hi68 : I 68 = some (nI n8)) (hi69 : I 69 = some (nI n10)) (hi70 : I 70 = some n7) (hi72 : I 72 = some n9) (hF : FK n f I R) (hY : SYT tx cN A I R) (hP : RPV f n E tx N I R) (hEP : EP f n E) (hN : N < 65536) (hmj : mj < 65536) (he : p + 6 ≤ e ∧ e ≤ n) (hs3 : s3 < 2048) (hf6 : fl < 65536) (hw : 4 ≤ w ∧ w ≤ 9) (h6 : w = 6 → sb s2 8 = sb s3 7) (h7 : w = 7 → sb s2 7 = sb s3 6) : pt (mT g) 177 [.ref m0, .int (nI w), .int t, .int (nI (p + 6)), .int (nI e), .int (nI x), .int (nI s3)] M (fun v M' => (∃  (I' : rI) (R' : rR), (¬ s_fe f (w + 1) (p + 6) e = some e) ∧ v = some (.int 30) ∧ RS g m0 q z I' R' M' ∧ eqI [47, 48, 65, 67, 68, 69, 70, 71, 72] I I' ∧ eqR [] R R') ∨ (∃ (r : Nat) (I' : rI) (R' : rR), (s_fe f (w + 1) (p + 6) e = some e) ∧ (brS f n E fl (w + 1) p s2 = some (.inl r) ∨ brS f n E fl (w + 1) p s2 = some (.inr (r, p))) ∧ (31 ≤ r ∧ r ≤ 38) ∧ v = some (.int (nI r)) ∧ RS g m0 q z I' R' M' ∧ eqI [47, 48, 65, 67, 68, 69, 70, 71, 72] I I' ∧ eqR [] R R') ∨ (∃ (e9 : Nat × Nat) (I' : rI) (R' : rR), (s_fe f (w + 1) (p + 6) e = some e) ∧ (brS f n E fl (w + 1) p s2 = some (.inr e9)) ∧ v = some (.int (-1)) ∧ RS g m0 q z I' R' M' ∧ eqI [47, 48, 65, 67, 68, 69, 70, 71, 72] I I' ∧ eqR [] R R' ∧ I' 47 = some (nI e9.1) ∧ I' 48 = some (nI e9.2)) ∨ (∃  (I' : rI) (R' : rR), (s_fe f (w + 1) (p + 6) e = some e) ∧ (brS f n E fl (w + 1) p s2 = none) ∧ v = some (.int 0) ∧ RS g m0 q z I' R' M' ∧ eqI [47, 48, 65, 67, 68, 69, 70, 71, 72] I I' ∧ eqR [] R R' ∧ I' 71 = some (nI (if w = 5 then by2 f (p + 6) else nb)) ∧ I' 65 = some (nI (if w + 1 = 5 then by2 f (p + 6) else n5)) ∧ I' 68 = some (nI (if w + 1 = 8 then by2 f (p + 6) else n8)) ∧ I' 69 = some (nI (if w + 1 = 10 then by2 f (p + 6) else n10)) ∧ I' 70 = some (if w + 1 = 6 then (nI (p + 6)) else n7) ∧ I' 72 = some (if w + 1 = 9 then (nI (by2 f (p + 6))) else n9))) := by
  rcases (show w = 4 ∨ w = 5 ∨ w = 6 ∨ w = 7 ∨ w = 8 ∨ w = 9 by omega) with rfl | rfl | rfl | rfl | rfl | rfl
  · refine pt.mono (rd_attr4 (p0 := p + 6) hR hi51 hi52 hi53 hF hY hP hEP hN hmj he hs3) (fun v M' h9 => ?_)
    rcases h9 with ⟨I', R', hs, hv, hR', hI', hX'⟩ | ⟨I', R', hs, hb, hv, hR', hI', hX'⟩ | ⟨I', R', hs, hb, hv, hR', hI', hX', h65⟩
    · exact Or.inl ⟨I', R', hs, hv, hR', eqI.rf.tr hI' (by decide), eqR.rf.tr hX' (by decide)⟩
    · exact Or.inr (Or.inl ⟨33, I', R', hs, Or.inl (by rw [br_5, if_pos hb]), by decide, hv, hR', eqI.rf.tr hI' (by decide), eqR.rf.tr hX' (by decide)⟩)
    · exact Or.inr (Or.inr (Or.inr ⟨I', R', hs, by rw [br_5, if_neg hb], hv, hR', eqI.rf.tr hI' (by decide), eqR.rf.tr hX' (by decide), (by rw [if_neg (by decide)]; exact (hI' 71 (by decide)).trans hi71), (by rw [if_pos (by decide)]; exact h65), (by rw [if_neg (by decide)]; exact (hI' 68 (by decide)).trans hi68), (by rw [if_neg (by decide)]; exact (hI' 69 (by decide)).trans hi69), (by rw [if_neg (by decide)]; exact (hI' 70 (by decide)).trans hi70), (by rw [if_neg (by decide)]; exact (hI' 72 (by decide)).trans hi72)⟩))
  · refine pt.mono (rd_attr5 (p0 := p + 6) hR hi51 hi52 hi53 hF hY hP hEP hN hmj he hs3) (fun v M' h9 => ?_)
    rcases h9 with ⟨I', R', hs, hv, hR', hI', hX'⟩ | ⟨I', R', hs, hb, hv, hR', hI', hX'⟩ | ⟨I', R', hs, hb, hv, hR', hI', hX', h71, h70⟩
    · exact Or.inl ⟨I', R', hs, hv, hR', eqI.rf.tr hI' (by decide), eqR.rf.tr hX' (by decide)⟩
    · exact Or.inr (Or.inl ⟨38, I', R', hs, Or.inl (by rw [br_6, if_pos hb]), by decide, hv, hR', eqI.rf.tr hI' (by decide), eqR.rf.tr hX' (by decide)⟩)
    · exact Or.inr (Or.inr (Or.inr ⟨I', R', hs, by rw [br_6, if_neg hb], hv, hR', eqI.rf.tr hI' (by decide), eqR.rf.tr hX' (by decide), (by rw [if_pos rfl]; exact h71), (by rw [if_neg (by decide)]; exact (hI' 65 (by decide)).trans hi65), (by rw [if_neg (by decide)]; exact (hI' 68 (by decide)).trans hi68), (by rw [if_neg (by decide)]; exact (hI' 69 (by decide)).trans hi69), (by rw [if_pos (by decide)]; exact h70), (by rw [if_neg (by decide)]; exact (hI' 72 (by decide)).trans hi72)⟩))
  · refine pt.mono (rd_attr6 (p0 := p + 6) hR hi51 hi52 hi53 hF hY hP hEP hN hmj he hs3) (fun v M' h9 => ?_)
    rcases h9 with ⟨I', R', hs, hv, hR', hI', hX'⟩ | ⟨I', R', hs, hb, hv, hR', hI', hX'⟩ | ⟨I', R', hs, hb, hv, hR', hI', hX'⟩
    · exact Or.inl ⟨I', R', hs, hv, hR', eqI.rf.tr hI' (by decide), eqR.rf.tr hX' (by decide)⟩
    · exact Or.inr (Or.inl ⟨34, I', R', hs, Or.inl (by rw [br_7, if_neg (fun h8 => hb ⟨h8.1, by rw [← h6 rfl]; exact h8.2⟩)]), by decide, hv, hR', eqI.rf.tr hI' (by decide), eqR.rf.tr hX' (by decide)⟩)
    · exact Or.inr (Or.inr (Or.inr ⟨I', R', hs, by rw [br_7, if_pos ⟨hb.1, by rw [h6 rfl]; exact hb.2⟩], hv, hR', eqI.rf.tr hI' (by decide), eqR.rf.tr hX' (by decide), (by rw [if_neg (by decide)]; exact (hI' 71 (by decide)).trans hi71), (by rw [if_neg (by decide)]; exact (hI' 65 (by decide)).trans hi65), (by rw [if_neg (by decide)]; exact (hI' 68 (by decide)).trans hi68), (by rw [if_neg (by decide)]; exact (hI' 69 (by decide)).trans hi69), (by rw [if_neg (by decide)]; exact (hI' 70 (by decide)).trans hi70), (by rw [if_neg (by decide)]; exact (hI' 72 (by decide)).trans hi72)⟩))
  · refine pt.mono (rd_attr7 (p0 := p + 6) hR hi51 hi52 hi53 hF hY hP hEP hN hmj he hs3) (fun v M' h9 => ?_)
    rcases h9 with ⟨I', R', hs, hv, hR', hI', hX'⟩ | ⟨I', R', hs, hb, hv, hR', hI', hX'⟩ | ⟨I', R', hs, hb, hv, hR', hI', hX', h68⟩
    · exact Or.inl ⟨I', R', hs, hv, hR', eqI.rf.tr hI' (by decide), eqR.rf.tr hX' (by decide)⟩
    · exact Or.inr (Or.inl ⟨35, I', R', hs, Or.inl (by rw [br_8, if_neg (fun h8 => (by rcases hb with hb | hb; exact h8.1 hb; exact hb (by rw [← h7 rfl]; exact h8.2)))]), by decide, hv, hR', eqI.rf.tr hI' (by decide), eqR.rf.tr hX' (by decide)⟩)
    · exact Or.inr (Or.inr (Or.inr ⟨I', R', hs, by rw [br_8, if_pos ⟨hb.1, by rw [h7 rfl]; exact hb.2⟩], hv, hR', eqI.rf.tr hI' (by decide), eqR.rf.tr hX' (by decide), (by rw [if_neg (by decide)]; exact (hI' 71 (by decide)).trans hi71), (by rw [if_neg (by decide)]; exact (hI' 65 (by decide)).trans hi65), (by rw [if_pos (by decide)]; exact h68), (by rw [if_neg (by decide)]; exact (hI' 69 (by decide)).trans hi69), (by rw [if_neg (by decide)]; exact (hI' 70 (by decide)).trans hi70), (by rw [if_neg (by decide)]; exact (hI' 72 (by decide)).trans hi72)⟩))
  · refine pt.mono (rd_attr8 (p0 := p + 6) (t := p) hR hi51 hi52 hi53 hF hY hP hEP hN hmj he hs3) (fun v M' h9 => ?_)
    rcases h9 with ⟨I', R', hs, hv, hR', hI', hX'⟩ | ⟨I', R', hs, hb, hv, hR', hI', hX'⟩ | ⟨y, I', R', hs, hb, hv, hR', hI', hX', h47, h48⟩ | ⟨I', R', hs, hb, hv, hR', hI', hX', h72⟩
    · exact Or.inl ⟨I', R', hs, hv, hR', eqI.rf.tr hI' (by decide), eqR.rf.tr hX' (by decide)⟩
    · exact Or.inr (Or.inl ⟨37, I', R', hs, Or.inr (br_9s hb), by decide, hv, hR', eqI.rf.tr hI' (by decide), eqR.rf.tr hX' (by decide)⟩)
    · exact Or.inr (Or.inr (Or.inl ⟨(28, y), I', R', hs, br_9s hb, hv, hR', eqI.rf.tr hI' (by decide), eqR.rf.tr hX' (by decide), h47, h48⟩))
    · exact Or.inr (Or.inr (Or.inr ⟨I', R', hs, br_9n hb, hv, hR', eqI.rf.tr hI' (by decide), eqR.rf.tr hX' (by decide), (by rw [if_neg (by decide)]; exact (hI' 71 (by decide)).trans hi71), (by rw [if_neg (by decide)]; exact (hI' 65 (by decide)).trans hi65), (by rw [if_neg (by decide)]; exact (hI' 68 (by decide)).trans hi68), (by rw [if_neg (by decide)]; exact (hI' 69 (by decide)).trans hi69), (by rw [if_neg (by decide)]; exact (hI' 70 (by decide)).trans hi70), (by rw [if_pos (by decide)]; exact h72)⟩))
  · refine pt.mono (rd_attr9 (p0 := p + 6) hR hi51 hi52 hi53 hi58 hF hY hP hEP hN hmj he hs3 hf6) (fun v M' h9 => ?_)
    rcases h9 with ⟨I', R', hs, hv, hR', hI', hX'⟩ | ⟨I', R', hs, hb, hv, hR', hI', hX'⟩ | ⟨I', R', hs, hb, hv, hR', hI', hX', h69⟩
    · exact Or.inl ⟨I', R', hs, hv, hR', eqI.rf.tr hI' (by decide), eqR.rf.tr hX' (by decide)⟩
    · exact Or.inr (Or.inl ⟨36, I', R', hs, Or.inl (by rw [br_10, if_neg (fun h8 => (by rcases hb with hb | hb; exact h8.1 hb; exact hb (has_9.mp h8.2)))]), by decide, hv, hR', eqI.rf.tr hI' (by decide), eqR.rf.tr hX' (by decide)⟩)
    · exact Or.inr (Or.inr (Or.inr ⟨I', R', hs, by rw [br_10, if_pos ⟨hb.1, has_9.mpr hb.2⟩], hv, hR', eqI.rf.tr hI' (by decide), eqR.rf.tr hX' (by decide), (by rw [if_neg (by decide)]; exact (hI' 71 (by decide)).trans hi71), (by rw [if_neg (by decide)]; exact (hI' 65 (by decide)).trans hi65), (by rw [if_neg (by decide)]; exact (hI' 68 (by decide)).trans hi68), (by rw [if_pos (by decide)]; exact h69), (by rw [if_neg (by decide)]; exact (hI' 70 (by decide)).trans hi70), (by rw [if_neg (by decide)]; exact (hI' 72 (by decide)).trans hi72)⟩))
set_option maxHeartbeats 4000000 in
theorem rd_checkAttributes4 {g : xe_G} {m0 : Nat} {q : Nat → Nat} {z : Nat × Nat} {I : rI} {R : rR} {M : mi_H} {n : Nat} {f : Nat → Int32} {tx : List (List Nat)} {cN : Nat} {A : Nat → Nat} {N mj : Nat} {E : List (Nat × Nat)} {p1 e x fl : Nat} (hR : RS g m0 q z I R M) (hi51 : I 51 = some 0) (hi52 : I 52 = some (nI N)) (hi53 : I 53 = some (nI mj)) (hi58 : I 58 = some (nI fl)) (hi71 : I 71 = some (nI 0)) (hi66 : I 66 = some (nI 0)) (hi65 : I 65 = some (nI 0)) (hi68 : I 68 = some (nI 0)) (hi69 : I 69 = some (nI 0)) (hi70 : I 70 = some (-1)) (hi72 : I 72 = some (-1)) (hF : FK n f I R) (hY : SYT tx cN A I R) (hP : RPV f n E tx N I R) (hK : KX I R) (hEP : EP f n E) (hN : N < 65536) (hmj : mj < 65536) (hin : p1 + 2 ≤ e ∧ e ≤ n) (hat : s_atE f e (by2 f p1) (p1 + 2) = some e) (hf6 : fl < 65536) : pt (mT g) 187 [.ref m0, .int (nI p1), .int 4, .int (nI x)] M (fun v M' => (∃ (e9 : Nat × Nat) (I' : rI) (R' : rR), (clS f n E fl mj (by2 f p1) (p1 + 2) 0 0 = .inl e9) ∧ v = some (.int (-1)) ∧ RS g m0 q z I' R' M' ∧ eqI [66, 47, 48, 65, 67, 68, 69, 70, 71, 72] I I' ∧ eqR [] R R' ∧ I' 47 = some (nI e9.1) ∧ I' 48 = some (nI e9.2)) ∨ (∃ (bc : Nat) (K : KT) (I' : rI) (R' : rR), (clS f n E fl mj (by2 f p1) (p1 + 2) 0 0 = .inr bc) ∧ (clU f n E mj (by2 f p1) (p1 + 2) (0, 0, 0, 0, 0, -1) = K) ∧ v = some (.int (nI e)) ∧ RS g m0 q z I' R' M' ∧ eqI [66, 47, 48, 65, 67, 68, 69, 70, 71, 72] I I' ∧ eqR [] R R' ∧ I' 71 = some (nI bc) ∧ I' 66 = some (nI K.1) ∧ I' 65 = some (nI K.2.2.1) ∧ I' 68 = some (nI K.2.2.2.1) ∧ I' 69 = some (nI K.2.2.2.2.1) ∧ I' 70 = some (b7 K) ∧ I' 72 = some K.2.2.2.2.2)) := by
  refine pt_in (b := mb_187 g) rfl (fun kf => ?_)
  show pl (mT g) kf (mb_187 g).2 (0, [(0, .ref m0), (1, .int (nI p1)), (2, .int 4), (3, .int (nI x))], [], M) _
  have hEI : eqI [66, 47, 48, 65, 67, 68, 69, 70, 71, 72] I I := eqI.rf
  have hER : eqR [] R R := eqR.rf
  have hn := hF.1
  have LL : ∀ (kf : Nat), (∀ (i p s2 s3 : Nat) (bc : Nat) (K : KT) (M1 : mi_H) (I1 : rI) (R1 : rR), (RS g m0 q z I1 R1 M1) → (eqI [66, 47, 48, 65, 67, 68, 69, 70, 71, 72] I I1) → (eqR [] R R1) → (I1 51 = some 0) → (I1 52 = some (nI N)) → (I1 53 = some (nI mj)) → (I1 58 = some (nI fl)) → (I1 71 = some (nI bc)) → (I1 66 = some (nI K.1)) → (I1 65 = some (nI K.2.2.1)) → (I1 68 = some (nI K.2.2.2.1)) → (I1 69 = some (nI K.2.2.2.2.1)) → (I1 70 = some (b7 K)) → (I1 72 = some K.2.2.2.2.2) → (FK n f I1 R1) → (SYT tx cN A I1 R1) → (RPV f n E tx N I1 R1) → (KX I1 R1) → (i ≤ by2 f p1) → (s3 < 2048) → (∀ w, 4 ≤ w → w ≤ 9 → sb s3 w = sb s2 (w + 1)) → (s_atE f e (by2 f p1 - i) p = some e) → (clS f n E fl mj (by2 f p1 - i) p s2 bc = clS f n E fl mj (by2 f p1) (p1 + 2) 0 0) → (clU f n E mj (by2 f p1 - i) p K = clU f n E mj (by2 f p1) (p1 + 2) (0, 0, 0, 0, 0, -1)) → (K.1 ≤ i) →  pl (mT g) kf (mb_187 g).2 (18, [(0, .ref m0), (2, .int 4), (3, .int (nI x)), (4, .int (nI (by2 f p1))), (5, .int (nI p)), (6, .int (nI s3)), (7, .int (nI i))], [], M1) (fun v M' => (∃ (e9 : Nat × Nat) (I' : rI) (R' : rR), (clS f n E fl mj (by2 f p1) (p1 + 2) 0 0 = .inl e9) ∧ v = some (.int (-1)) ∧ RS g m0 q z I' R' M' ∧ eqI [66, 47, 48, 65, 67, 68, 69, 70, 71, 72] I I' ∧ eqR [] R R' ∧ I' 47 = some (nI e9.1) ∧ I' 48 = some (nI e9.2)) ∨ (∃ (bc : Nat) (K : KT) (I' : rI) (R' : rR), (clS f n E fl mj (by2 f p1) (p1 + 2) 0 0 = .inr bc) ∧ (clU f n E mj (by2 f p1) (p1 + 2) (0, 0, 0, 0, 0, -1) = K) ∧ v = some (.int (nI e)) ∧ RS g m0 q z I' R' M' ∧ eqI [66, 47, 48, 65, 67, 68, 69, 70, 71, 72] I I' ∧ eqR [] R R' ∧ I' 71 = some (nI bc) ∧ I' 66 = some (nI K.1) ∧ I' 65 = some (nI K.2.2.1) ∧ I' 68 = some (nI K.2.2.2.1) ∧ I' 69 = some (nI K.2.2.2.2.1) ∧ I' 70 = some (b7 K) ∧ I' 72 = some K.2.2.2.2.2))) ∧ (∀ (i p s2 s3 k t : Nat) (bc : Nat) (K : KT) (M1 : mi_H) (I1 : rI) (R1 : rR), (RS g m0 q z I1 R1 M1) → (eqI [66, 47, 48, 65, 67, 68, 69, 70, 71, 72] I I1) → (eqR [] R R1) → (I1 51 = some 0) → (I1 52 = some (nI N)) → (I1 53 = some (nI mj)) → (I1 58 = some (nI fl)) → (I1 71 = some (nI bc)) → (I1 66 = some (nI K.1)) → (I1 65 = some (nI K.2.2.1)) → (I1 68 = some (nI K.2.2.2.1)) → (I1 69 = some (nI K.2.2.2.2.1)) → (I1 70 = some (b7 K)) → (I1 72 = some K.2.2.2.2.2) → (FK n f I1 R1) → (SYT tx cN A I1 R1) → (RPV f n E tx N I1 R1) → (KX I1 R1) → (i < by2 f p1) → (s3 < 2048) → (∀ w, 4 ≤ w → w ≤ 9 → sb s3 w = sb s2 (w + 1)) → (s_atE f e (by2 f p1 - i) p = some e) → (clS f n E fl mj (by2 f p1 - i) p s2 bc = clS f n E fl mj (by2 f p1) (p1 + 2) 0 0) → (clU f n E mj (by2 f p1 - i) p K = clU f n E mj (by2 f p1) (p1 + 2) (0, 0, 0, 0, 0, -1)) → (K.1 ≤ i) → (k ≤ 10) → (tg f E (by2 f p) = 1) → (t < tx.length ∧ tx.getD t [] = tX f n E (by2 f p)) →  pl (mT g) kf (mb_187 g).2 (79, [(0, .ref m0), (2, .int 4), (3, .int (nI x)), (4, .int (nI (by2 f p1))), (5, .int (nI p)), (6, .int (nI s3)), (7, .int (nI i)), (8, .int (nI (by4 f (p + 2)))), (9, .int (nI t)), (10, .int (gI (kb mj 4 (tX f n E (by2 f p)) k))), (11, .int (nI k))], [], M1) (fun v M' => (∃ (e9 : Nat × Nat) (I' : rI) (R' : rR), (clS f n E fl mj (by2 f p1) (p1 + 2) 0 0 = .inl e9) ∧ v = some (.int (-1)) ∧ RS g m0 q z I' R' M' ∧ eqI [66, 47, 48, 65, 67, 68, 69, 70, 71, 72] I I' ∧ eqR [] R R' ∧ I' 47 = some (nI e9.1) ∧ I' 48 = some (nI e9.2)) ∨ (∃ (bc : Nat) (K : KT) (I' : rI) (R' : rR), (clS f n E fl mj (by2 f p1) (p1 + 2) 0 0 = .inr bc) ∧ (clU f n E mj (by2 f p1) (p1 + 2) (0, 0, 0, 0, 0, -1) = K) ∧ v = some (.int (nI e)) ∧ RS g m0 q z I' R' M' ∧ eqI [66, 47, 48, 65, 67, 68, 69, 70, 71, 72] I I' ∧ eqR [] R R' ∧ I' 71 = some (nI bc) ∧ I' 66 = some (nI K.1) ∧ I' 65 = some (nI K.2.2.1) ∧ I' 68 = some (nI K.2.2.2.1) ∧ I' 69 = some (nI K.2.2.2.2.1) ∧ I' 70 = some (b7 K) ∧ I' 72 = some K.2.2.2.2.2))) := by
    intro kf
    induction kf with
    | zero => exact ⟨by intros; exact pl_0, by intros; exact pl_0⟩
    | succ kf ih =>
      refine ⟨?_, ?_⟩
      · skip
        intro i p s2 s3 bc K M1 I1 R1 hR1 hEI1 hER1 hl51 hl52 hl53 hl58 hl71 hl66 hl65 hl68 hl69 hl70 hl72 hF1 hY1 hP1 hK1 hi hl hb ha hs9 hu hkn
        have hn := hF1.1
        have hu9 := by2_lt f p1
        have htl := hY1.1.2.2.1
        refine ps_st1 (S' := (20, [(0, .ref m0), (2, .int 4), (3, .int (nI x)), (4, .int (nI (by2 f p1))), (5, .int (nI p)), (6, .int (nI s3)), (7, .int (nI i))], [.int (nI i)], M1)) rfl rfl rfl ?_
        refine ps_st (S' := (22, [(0, .ref m0), (2, .int 4), (3, .int (nI x)), (4, .int (nI (by2 f p1))), (5, .int (nI p)), (6, .int (nI s3)), (7, .int (nI i))], [.int (nI (by2 f p1)), .int (nI i)], M1)) rfl rfl rfl ?_
        refine ps_if2 (S1 := (284, [(0, .ref m0), (2, .int 4), (3, .int (nI x)), (4, .int (nI (by2 f p1))), (5, .int (nI p)), (6, .int (nI s3)), (7, .int (nI i))], [], M1)) (S2 := (25, [(0, .ref m0), (2, .int 4), (3, .int (nI x)), (4, .int (nI (by2 f p1))), (5, .int (nI p)), (6, .int (nI s3)), (7, .int (nI i))], [], M1)) rfl rfl rfl (fun c_22 => ?_) (fun c_22 => ?_)
        · have c_22 : (nI (by2 f p1)) ≤ (nI i) := of_decide_eq_true c_22
          have n_22 : by2 f p1 ≤ i := (le_nI (p := by2 f p1) (n := i) (Nat.lt_trans (by2_lt _ _) (by decide)) (by omega)).mp c_22
          refine ps_st (S' := (286, [(0, .ref m0), (2, .int 4), (3, .int (nI x)), (4, .int (nI (by2 f p1))), (5, .int (nI p)), (6, .int (nI s3)), (7, .int (nI i))], [.int (nI p)], M1)) rfl rfl rfl ?_
          exact ps_reti rfl (Or.inr ⟨bc, K, I1, R1, by rw [← hs9, show by2 f p1 - i = 0 by omega]; rfl, by rw [← hu, show by2 f p1 - i = 0 by omega]; rfl, by rw [show e = p by (rw [show by2 f p1 - i = 0 by omega] at ha; exact (Option.some.inj ha).symm)], hR1, hEI1, hER1, hl71, hl66, hl65, hl68, hl69, hl70, hl72⟩)
        · have c_22 : ¬ ((nI (by2 f p1)) ≤ (nI i)) := of_decide_eq_false c_22
          have n_22 : ¬ (by2 f p1 ≤ i) := fun h9 => c_22 ((le_nI (p := by2 f p1) (n := i) (Nat.lt_trans (by2_lt _ _) (by decide)) (by omega)).mpr h9)
          obtain ⟨hq5, hq6, hq7⟩ := s_atE_in (i := i) (p := p) ha (by omega)
          refine ps_st (S' := (26, [(0, .ref m0), (2, .int 4), (3, .int (nI x)), (4, .int (nI (by2 f p1))), (5, .int (nI p)), (6, .int (nI s3)), (7, .int (nI i))], [.ref m0], M1)) rfl rfl rfl ?_
          refine ps_st (S' := (28, [(0, .ref m0), (2, .int 4), (3, .int (nI x)), (4, .int (nI (by2 f p1))), (5, .int (nI p)), (6, .int (nI s3)), (7, .int (nI i))], [.int (nI p), .ref m0], M1)) rfl rfl rfl ?_
          refine ps_st (S' := (29, [(0, .ref m0), (2, .int 4), (3, .int (nI x)), (4, .int (nI (by2 f p1))), (5, .int (nI p)), (6, .int (nI s3)), (7, .int (nI i))], [.int 2, .int (nI p), .ref m0], M1)) rfl rfl rfl ?_
          refine ps_st (S' := (30, [(0, .ref m0), (2, .int 4), (3, .int (nI x)), (4, .int (nI (by2 f p1))), (5, .int (nI p)), (6, .int (nI s3)), (7, .int (nI i))], [.int ((nI p) + 2), .ref m0], M1)) rfl rfl rfl ?_
          rw [nI_add1 (p := p) (k := 2) (x := 2) rfl (by omega)]
          show pl _ _ _ (_, [(0, .ref m0), (2, .int 4), (3, .int (nI x)), (4, .int (nI (by2 f p1))), (5, .int (nI p)), (6, .int (nI s3)), (7, .int (nI i))], [.int (nI (p + 2)), .ref m0], M1) _
          refine pl_call (a := [.ref m0, .int (nI (p + 2))]) (rest := []) rfl rfl rfl (rd_u4 (n := n) (f := f) (p := (p + 2)) hR1 hF1 (by omega)) (fun v1 M2 q3 => ?_)
          obtain ⟨rfl, rfl⟩ := q3
          show pl _ _ _ (33, [(0, .ref m0), (2, .int 4), (3, .int (nI x)), (4, .int (nI (by2 f p1))), (5, .int (nI p)), (6, .int (nI s3)), (7, .int (nI i))], [.long (nL (by4 f (p + 2)))], M1) _
          have hu_30 := by4_lt f (p + 2)
          refine ps_st (S' := (34, [(0, .ref m0), (2, .int 4), (3, .int (nI x)), (4, .int (nI (by2 f p1))), (5, .int (nI p)), (6, .int (nI s3)), (7, .int (nI i))], [.int (Int64.toInt32 (nL (by4 f (p + 2))))], M1)) rfl rfl rfl ?_
          rw [l2i_nL (p := by4 f (p + 2)) (by omega)]
          show pl _ _ _ (_, [(0, .ref m0), (2, .int 4), (3, .int (nI x)), (4, .int (nI (by2 f p1))), (5, .int (nI p)), (6, .int (nI s3)), (7, .int (nI i))], [.int (nI (by4 f (p + 2)))], M1) _
          refine ps_st (S' := (36, [(8, .int (nI (by4 f (p + 2)))), (0, .ref m0), (2, .int 4), (3, .int (nI x)), (4, .int (nI (by2 f p1))), (5, .int (nI p)), (6, .int (nI s3)), (7, .int (nI i))], [], M1)) rfl rfl rfl ?_
          refine ps_st (S' := (37, [(8, .int (nI (by4 f (p + 2)))), (0, .ref m0), (2, .int 4), (3, .int (nI x)), (4, .int (nI (by2 f p1))), (5, .int (nI p)), (6, .int (nI s3)), (7, .int (nI i))], [.ref m0], M1)) rfl rfl rfl ?_
          refine ps_st (S' := (38, [(8, .int (nI (by4 f (p + 2)))), (0, .ref m0), (2, .int 4), (3, .int (nI x)), (4, .int (nI (by2 f p1))), (5, .int (nI p)), (6, .int (nI s3)), (7, .int (nI i))], [.ref m0, .ref m0], M1)) rfl rfl rfl ?_
          refine ps_st (S' := (40, [(8, .int (nI (by4 f (p + 2)))), (0, .ref m0), (2, .int 4), (3, .int (nI x)), (4, .int (nI (by2 f p1))), (5, .int (nI p)), (6, .int (nI s3)), (7, .int (nI i))], [.int (nI p), .ref m0, .ref m0], M1)) rfl rfl rfl ?_
          refine pl_call (a := [.ref m0, .int (nI p)]) (rest := [.ref m0]) rfl rfl rfl (rd_u2 (n := n) (f := f) (p := p) hR1 hF1 (by omega)) (fun v4 M5 q6 => ?_)
          obtain ⟨rfl, rfl⟩ := q6
          show pl _ _ _ (43, [(8, .int (nI (by4 f (p + 2)))), (0, .ref m0), (2, .int 4), (3, .int (nI x)), (4, .int (nI (by2 f p1))), (5, .int (nI p)), (6, .int (nI s3)), (7, .int (nI i))], [.int (nI (by2 f p)), .ref m0], M1) _
          have hu_40 := by2_lt f p
          refine pl_call (a := [.ref m0, .int (nI (by2 f p))]) (rest := []) rfl rfl rfl (rd_tag (n := n) (f := f) (tx := tx) (cN := cN) (A := A) (N := N) (mj := mj) (E := E) (k := (by2 f p)) hR1 hl51 hl52 hl53 hF1 hY1 hP1 (hEP) (hN) (hmj) (by2_lt _ _)) (fun v7 M8 q9 => ?_)
          obtain ⟨rfl, rfl⟩ := q9
          show pl _ _ _ (46, [(8, .int (nI (by4 f (p + 2)))), (0, .ref m0), (2, .int 4), (3, .int (nI x)), (4, .int (nI (by2 f p1))), (5, .int (nI p)), (6, .int (nI s3)), (7, .int (nI i))], [.int (nI (tg f E (by2 f p)))], M1) _
          have htg_43 := tg_lt f E (by2 f p)
          refine ps_st (S' := (47, [(8, .int (nI (by4 f (p + 2)))), (0, .ref m0), (2, .int 4), (3, .int (nI x)), (4, .int (nI (by2 f p1))), (5, .int (nI p)), (6, .int (nI s3)), (7, .int (nI i))], [.int 1, .int (nI (tg f E (by2 f p)))], M1)) rfl rfl rfl ?_
          refine ps_if2 (S1 := (61, [(8, .int (nI (by4 f (p + 2)))), (0, .ref m0), (2, .int 4), (3, .int (nI x)), (4, .int (nI (by2 f p1))), (5, .int (nI p)), (6, .int (nI s3)), (7, .int (nI i))], [], M1)) (S2 := (50, [(8, .int (nI (by4 f (p + 2)))), (0, .ref m0), (2, .int 4), (3, .int (nI x)), (4, .int (nI (by2 f p1))), (5, .int (nI p)), (6, .int (nI s3)), (7, .int (nI i))], [], M1)) rfl rfl rfl (fun c_47 => ?_) (fun c_47 => ?_)
          · have c_47 : (nI (tg f E (by2 f p))) = 1 := of_decide_eq_true c_47
            have n_47 : tg f E (by2 f p) = 1 := (eq_nI (p := tg f E (by2 f p)) (n := 1) (Nat.lt_trans (tg_lt _ _ _) (by decide)) (by decide)).mp c_47
            refine ps_st (S' := (62, [(8, .int (nI (by4 f (p + 2)))), (0, .ref m0), (2, .int 4), (3, .int (nI x)), (4, .int (nI (by2 f p1))), (5, .int (nI p)), (6, .int (nI s3)), (7, .int (nI i))], [.ref m0], M1)) rfl rfl rfl ?_
            refine ps_st (S' := (63, [(8, .int (nI (by4 f (p + 2)))), (0, .ref m0), (2, .int 4), (3, .int (nI x)), (4, .int (nI (by2 f p1))), (5, .int (nI p)), (6, .int (nI s3)), (7, .int (nI i))], [.ref m0, .ref m0], M1)) rfl rfl rfl ?_
            refine ps_st (S' := (65, [(8, .int (nI (by4 f (p + 2)))), (0, .ref m0), (2, .int 4), (3, .int (nI x)), (4, .int (nI (by2 f p1))), (5, .int (nI p)), (6, .int (nI s3)), (7, .int (nI i))], [.int (nI p), .ref m0, .ref m0], M1)) rfl rfl rfl ?_
            refine pl_call (a := [.ref m0, .int (nI p)]) (rest := [.ref m0]) rfl rfl rfl (rd_u2 (n := n) (f := f) (p := p) hR1 hF1 (by omega)) (fun v10 M11 q12 => ?_)
            obtain ⟨rfl, rfl⟩ := q12
            show pl _ _ _ (68, [(8, .int (nI (by4 f (p + 2)))), (0, .ref m0), (2, .int 4), (3, .int (nI x)), (4, .int (nI (by2 f p1))), (5, .int (nI p)), (6, .int (nI s3)), (7, .int (nI i))], [.int (nI (by2 f p)), .ref m0], M1) _
            have hu_65 := by2_lt f p
            refine pl_call (a := [.ref m0, .int (nI (by2 f p))]) (rest := []) rfl rfl rfl (rd_symOf (n := n) (f := f) (tx := tx) (cN := cN) (A := A) (N := N) (mj := mj) (E := E) (k := (by2 f p)) hR1 hl51 hl52 hl53 hF1 hY1 hP1 (hEP) (hN) (hmj) (by omega)) (fun v13 M14 q15 => ?_)
            obtain ⟨s16, q68_s, rfl, rfl⟩ := q15
            show pl _ _ _ (71, [(8, .int (nI (by4 f (p + 2)))), (0, .ref m0), (2, .int 4), (3, .int (nI x)), (4, .int (nI (by2 f p1))), (5, .int (nI p)), (6, .int (nI s3)), (7, .int (nI i))], [.int (nI s16)], M1) _
            have hsl_68 := q68_s.1
            have htl_68 := hY1.1.2.2.1
            refine ps_st (S' := (73, [(9, .int (nI s16)), (8, .int (nI (by4 f (p + 2)))), (0, .ref m0), (2, .int 4), (3, .int (nI x)), (4, .int (nI (by2 f p1))), (5, .int (nI p)), (6, .int (nI s3)), (7, .int (nI i))], [], M1)) rfl rfl rfl ?_
            refine ps_st (S' := (74, [(9, .int (nI s16)), (8, .int (nI (by4 f (p + 2)))), (0, .ref m0), (2, .int 4), (3, .int (nI x)), (4, .int (nI (by2 f p1))), (5, .int (nI p)), (6, .int (nI s3)), (7, .int (nI i))], [.int (-1)], M1)) rfl rfl rfl ?_
            refine ps_st (S' := (76, [(10, .int (-1)), (9, .int (nI s16)), (8, .int (nI (by4 f (p + 2)))), (0, .ref m0), (2, .int 4), (3, .int (nI x)), (4, .int (nI (by2 f p1))), (5, .int (nI p)), (6, .int (nI s3)), (7, .int (nI i))], [], M1)) rfl rfl rfl ?_
            refine ps_st (S' := (77, [(10, .int (-1)), (9, .int (nI s16)), (8, .int (nI (by4 f (p + 2)))), (0, .ref m0), (2, .int 4), (3, .int (nI x)), (4, .int (nI (by2 f p1))), (5, .int (nI p)), (6, .int (nI s3)), (7, .int (nI i))], [.int 0], M1)) rfl rfl rfl ?_
            refine ps_st (S' := (79, [(0, .ref m0), (2, .int 4), (3, .int (nI x)), (4, .int (nI (by2 f p1))), (5, .int (nI p)), (6, .int (nI s3)), (7, .int (nI i)), (8, .int (nI (by4 f (p + 2)))), (9, .int (nI s16)), (10, .int (-1)), (11, .int 0)], [], M1)) rfl rfl rfl ?_
            exact ih.2 (i) (p) (s2) (s3) (0) (s16) (bc) (K) M1 I1 R1 hR1 hEI1 hER1 hl51 hl52 hl53 hl58 hl71 hl66 hl65 hl68 hl69 hl70 hl72 hF1 hY1 hP1 hK1 (by omega) (hl) (hb) (ha) (hs9) (hu) (hkn) (by omega) (by omega) (q68_s)
          · have c_47 : ¬ ((nI (tg f E (by2 f p))) = 1) := of_decide_eq_false c_47
            have n_47 : ¬ (tg f E (by2 f p) = 1) := fun h9 => c_47 ((eq_nI (p := tg f E (by2 f p)) (n := 1) (Nat.lt_trans (tg_lt _ _ _) (by decide)) (by decide)).mpr h9)
            refine ps_st (S' := (51, [(8, .int (nI (by4 f (p + 2)))), (0, .ref m0), (2, .int 4), (3, .int (nI x)), (4, .int (nI (by2 f p1))), (5, .int (nI p)), (6, .int (nI s3)), (7, .int (nI i))], [.ref m0], M1)) rfl rfl rfl ?_
            refine ps_st (S' := (53, [(8, .int (nI (by4 f (p + 2)))), (0, .ref m0), (2, .int 4), (3, .int (nI x)), (4, .int (nI (by2 f p1))), (5, .int (nI p)), (6, .int (nI s3)), (7, .int (nI i))], [.int 28, .ref m0], M1)) rfl rfl rfl ?_
            refine ps_st (S' := (55, [(8, .int (nI (by4 f (p + 2)))), (0, .ref m0), (2, .int 4), (3, .int (nI x)), (4, .int (nI (by2 f p1))), (5, .int (nI p)), (6, .int (nI s3)), (7, .int (nI i))], [.int (nI p), .int 28, .ref m0], M1)) rfl rfl rfl ?_
            refine pl_call (a := [.ref m0, .int 28, .int (nI p)]) (rest := []) rfl rfl rfl (rd_wrong (x1 := 28) (x2 := (nI p)) hR1) (fun v17 M18 q19 => ?_)
            obtain ⟨I20, R21, rfl, hR22, hI23, hX24, hi25, hi26⟩ := q19
            have hi27 := (hI23 51 (by decide)).trans hl51
            have hi28 := (hI23 52 (by decide)).trans hl52
            have hi29 := (hI23 53 (by decide)).trans hl53
            have hi30 := (hI23 58 (by decide)).trans hl58
            have hi31 := (hI23 71 (by decide)).trans hl71
            have hi32 := (hI23 66 (by decide)).trans hl66
            have hi33 := (hI23 65 (by decide)).trans hl65
            have hi34 := (hI23 68 (by decide)).trans hl68
            have hi35 := (hI23 69 (by decide)).trans hl69
            have hi36 := (hI23 70 (by decide)).trans hl70
            have hi37 := (hI23 72 (by decide)).trans hl72
            have hF_38 := hF1.mono (cIx hI23 (by decide)) (cRx hX24 (by decide))
            have hY_39 := hY1.mono (cIx hI23 (by decide)) (cRx hX24 (by decide))
            have hP_40 := hP1.mono (cIx hI23 (by decide)) (cRx hX24 (by decide))
            have hK_41 := hK1.mono (cIx hI23 (by decide)) (cRx hX24 (by decide))
            have hEI42 := hEI1.tr hI23 (by decide)
            have hER43 := hER1.tr hX24 (by decide)
            show pl _ _ _ (58, [(8, .int (nI (by4 f (p + 2)))), (0, .ref m0), (2, .int 4), (3, .int (nI x)), (4, .int (nI (by2 f p1))), (5, .int (nI p)), (6, .int (nI s3)), (7, .int (nI i))], [.int 0], M18) _
            refine ps_st (S' := (59, [(8, .int (nI (by4 f (p + 2)))), (0, .ref m0), (2, .int 4), (3, .int (nI x)), (4, .int (nI (by2 f p1))), (5, .int (nI p)), (6, .int (nI s3)), (7, .int (nI i))], [], M18)) rfl rfl rfl ?_
            refine ps_st (S' := (60, [(8, .int (nI (by4 f (p + 2)))), (0, .ref m0), (2, .int 4), (3, .int (nI x)), (4, .int (nI (by2 f p1))), (5, .int (nI p)), (6, .int (nI s3)), (7, .int (nI i))], [.int (-1)], M18)) rfl rfl rfl ?_
            exact ps_ret rfl rfl (Or.inl ⟨(28, p), I20, R21, by
                rw [← hs9, clS_28 (i := i) (p := p) (s := s2) (by omega) (by omega)], rfl, hR22, hEI42, hER43, hi25, hi26⟩)
      · skip
        intro i p s2 s3 k t bc K M1 I1 R1 hR1 hEI1 hER1 hl51 hl52 hl53 hl58 hl71 hl66 hl65 hl68 hl69 hl70 hl72 hF1 hY1 hP1 hK1 hi0 hl hb ha hs9 hu hkn hk h1 hsy
        have hn := hF1.1
        have hu9 := by2_lt f p1
        have htl := hY1.1.2.2.1
        obtain ⟨hq5, hq6, hq7⟩ := s_atE_in (i := i) (p := p) ha hi0
        refine ps_st1 (S' := (81, [(0, .ref m0), (2, .int 4), (3, .int (nI x)), (4, .int (nI (by2 f p1))), (5, .int (nI p)), (6, .int (nI s3)), (7, .int (nI i)), (8, .int (nI (by4 f (p + 2)))), (9, .int (nI t)), (10, .int (gI (kb mj 4 (tX f n E (by2 f p)) k))), (11, .int (nI k))], [.int (nI k)], M1)) rfl rfl rfl ?_
        refine ps_st (S' := (82, [(0, .ref m0), (2, .int 4), (3, .int (nI x)), (4, .int (nI (by2 f p1))), (5, .int (nI p)), (6, .int (nI s3)), (7, .int (nI i)), (8, .int (nI (by4 f (p + 2)))), (9, .int (nI t)), (10, .int (gI (kb mj 4 (tX f n E (by2 f p)) k))), (11, .int (nI k))], [.ref m0, .int (nI k)], M1)) rfl rfl rfl ?_
        refine pr_ref (j := 62) (S' := (85, [(0, .ref m0), (2, .int 4), (3, .int (nI x)), (4, .int (nI (by2 f p1))), (5, .int (nI p)), (6, .int (nI s3)), (7, .int (nI i)), (8, .int (nI (by4 f (p + 2)))), (9, .int (nI t)), (10, .int (gI (kb mj 4 (tX f n E (by2 f p)) k))), (11, .int (nI k))], [.ref (q 62), .int (nI k)], M1)) rfl hR1 rfl rfl ?_
        refine pr_knl (S' := (86, [(0, .ref m0), (2, .int 4), (3, .int (nI x)), (4, .int (nI (by2 f p1))), (5, .int (nI p)), (6, .int (nI s3)), (7, .int (nI i)), (8, .int (nI (by4 f (p + 2)))), (9, .int (nI t)), (10, .int (gI (kb mj 4 (tX f n E (by2 f p)) k))), (11, .int (nI k))], [.int (nI 10), .int (nI k)], M1)) rfl hR1 rfl ?_
        refine ps_if2 (S1 := (140, [(0, .ref m0), (2, .int 4), (3, .int (nI x)), (4, .int (nI (by2 f p1))), (5, .int (nI p)), (6, .int (nI s3)), (7, .int (nI i)), (8, .int (nI (by4 f (p + 2)))), (9, .int (nI t)), (10, .int (gI (kb mj 4 (tX f n E (by2 f p)) k))), (11, .int (nI k))], [], M1)) (S2 := (89, [(0, .ref m0), (2, .int 4), (3, .int (nI x)), (4, .int (nI (by2 f p1))), (5, .int (nI p)), (6, .int (nI s3)), (7, .int (nI i)), (8, .int (nI (by4 f (p + 2)))), (9, .int (nI t)), (10, .int (gI (kb mj 4 (tX f n E (by2 f p)) k))), (11, .int (nI k))], [], M1)) rfl rfl rfl (fun c_86 => ?_) (fun c_86 => ?_)
        · have c_86 : (nI 10) ≤ (nI k) := of_decide_eq_true c_86
          have n_86 : 10 ≤ k := (le_nI (p := 10) (n := k) (by decide) (by omega)).mp c_86
          have ek : k = 10 := by omega
          refine ps_st (S' := (142, [(0, .ref m0), (2, .int 4), (3, .int (nI x)), (4, .int (nI (by2 f p1))), (5, .int (nI p)), (6, .int (nI s3)), (7, .int (nI i)), (8, .int (nI (by4 f (p + 2)))), (9, .int (nI t)), (10, .int (gI (kb mj 4 (tX f n E (by2 f p)) k))), (11, .int (nI k))], [.int (gI (kb mj 4 (tX f n E (by2 f p)) k))], M1)) rfl rfl rfl ?_
          refine ps_if (S1 := (268, [(0, .ref m0), (2, .int 4), (3, .int (nI x)), (4, .int (nI (by2 f p1))), (5, .int (nI p)), (6, .int (nI s3)), (7, .int (nI i)), (8, .int (nI (by4 f (p + 2))))], [], M1)) (S2 := (145, [(0, .ref m0), (2, .int 4), (3, .int (nI x)), (4, .int (nI (by2 f p1))), (5, .int (nI p)), (6, .int (nI s3)), (7, .int (nI i)), (8, .int (nI (by4 f (p + 2)))), (9, .int (nI t)), (10, .int (gI (kb mj 4 (tX f n E (by2 f p)) k))), (11, .int (nI k))], [], M1)) rfl rfl rfl (fun c_142 => ?_) (fun c_142 => ?_)
          · have c_142 : (gI (kb mj 4 (tX f n E (by2 f p)) k)) < 0 := of_decide_eq_true c_142
            rw [ek] at c_142
            have hsm := ck_n c_142
            refine ps_st (S' := (270, [(0, .ref m0), (2, .int 4), (3, .int (nI x)), (4, .int (nI (by2 f p1))), (5, .int (nI p)), (6, .int (nI s3)), (7, .int (nI i)), (8, .int (nI (by4 f (p + 2))))], [.int (nI p)], M1)) rfl rfl rfl ?_
            refine ps_st (S' := (272, [(0, .ref m0), (2, .int 4), (3, .int (nI x)), (4, .int (nI (by2 f p1))), (5, .int (nI p)), (6, .int (nI s3)), (7, .int (nI i)), (8, .int (nI (by4 f (p + 2))))], [.int 6, .int (nI p)], M1)) rfl rfl rfl ?_
            refine ps_st (S' := (274, [(0, .ref m0), (2, .int 4), (3, .int (nI x)), (4, .int (nI (by2 f p1))), (5, .int (nI p)), (6, .int (nI s3)), (7, .int (nI i)), (8, .int (nI (by4 f (p + 2))))], [.int (nI (by4 f (p + 2))), .int 6, .int (nI p)], M1)) rfl rfl rfl ?_
            refine ps_st (S' := (275, [(0, .ref m0), (2, .int 4), (3, .int (nI x)), (4, .int (nI (by2 f p1))), (5, .int (nI p)), (6, .int (nI s3)), (7, .int (nI i)), (8, .int (nI (by4 f (p + 2))))], [.int (6 + (nI (by4 f (p + 2)))), .int (nI p)], M1)) rfl rfl rfl ?_
            rw [nI_add2 (p := 6) (k := by4 f (p + 2)) (x := 6) (y := (nI (by4 f (p + 2)))) rfl rfl (by omega)]
            show pl _ _ _ (_, [(0, .ref m0), (2, .int 4), (3, .int (nI x)), (4, .int (nI (by2 f p1))), (5, .int (nI p)), (6, .int (nI s3)), (7, .int (nI i)), (8, .int (nI (by4 f (p + 2))))], [.int (nI (6 + by4 f (p + 2))), .int (nI p)], M1) _
            refine ps_st (S' := (276, [(0, .ref m0), (2, .int 4), (3, .int (nI x)), (4, .int (nI (by2 f p1))), (5, .int (nI p)), (6, .int (nI s3)), (7, .int (nI i)), (8, .int (nI (by4 f (p + 2))))], [.int ((nI p) + (nI (6 + by4 f (p + 2))))], M1)) rfl rfl rfl ?_
            rw [nI_add1 (p := p) (k := 6 + by4 f (p + 2)) (x := (nI (6 + by4 f (p + 2)))) rfl (by omega)]
            rw [show nI (p + (6 + by4 f (p + 2))) = nI (p + 6 + by4 f (p + 2)) from congrArg nI (by omega)]
            show pl _ _ _ (_, [(0, .ref m0), (2, .int 4), (3, .int (nI x)), (4, .int (nI (by2 f p1))), (5, .int (nI p)), (6, .int (nI s3)), (7, .int (nI i)), (8, .int (nI (by4 f (p + 2))))], [.int (nI (p + 6 + by4 f (p + 2)))], M1) _
            refine ps_st (S' := (278, [(5, .int (nI (p + 6 + by4 f (p + 2)))), (0, .ref m0), (2, .int 4), (3, .int (nI x)), (4, .int (nI (by2 f p1))), (6, .int (nI s3)), (7, .int (nI i)), (8, .int (nI (by4 f (p + 2))))], [], M1)) rfl rfl rfl ?_
            refine ps_st (S' := (281, [(7, .int ((nI i) + 1)), (5, .int (nI (p + 6 + by4 f (p + 2)))), (0, .ref m0), (2, .int 4), (3, .int (nI x)), (4, .int (nI (by2 f p1))), (6, .int (nI s3)), (8, .int (nI (by4 f (p + 2))))], [], M1)) rfl rfl rfl ?_
            rw [nI_add1 (p := i) (k := 1) (x := 1) rfl (by omega)]
            show pl _ _ _ (_, [(7, .int (nI (i + 1))), (5, .int (nI (p + 6 + by4 f (p + 2)))), (0, .ref m0), (2, .int 4), (3, .int (nI x)), (4, .int (nI (by2 f p1))), (6, .int (nI s3)), (8, .int (nI (by4 f (p + 2))))], [], M1) _
            refine ps_st (S' := (18, [(0, .ref m0), (2, .int 4), (3, .int (nI x)), (4, .int (nI (by2 f p1))), (5, .int (nI (p + 6 + by4 f (p + 2)))), (6, .int (nI s3)), (7, .int (nI (i + 1)))], [], M1)) rfl rfl rfl ?_
            exact ih.1 (i + 1) (p + 6 + by4 f (p + 2)) (s2) (s3) (bc) (K) M1 I1 R1 hR1 hEI1 hER1 hl51 hl52 hl53 hl58 hl71 hl66 hl65 hl68 hl69 hl70 hl72 hF1 hY1 hP1 hK1 (by omega) (hl) (hb) (hq7) (by
                rw [← hs9, clS_u (i := i) (p := p) (s := s2) hi0 h1 hsm]) (by
                rw [← hu, clU_st (i := i) hi0, hsm, stU_0]) (by omega)
          · have c_142 : ¬ ((gI (kb mj 4 (tX f n E (by2 f p)) k)) < 0) := of_decide_eq_false c_142
            rw [ek] at c_142
            obtain ⟨w, hw1, hw2, hsm⟩ := ck_y c_142
            have hws := hb w hw2.1 hw2.2
            have hb2 := sb_lt s3 w
            rw [show gI (kb mj 4 (tX f n E (by2 f p)) k) = nI w by rw [ek, hw1]; rfl]
            show pl _ _ _ (145, [(0, .ref m0), (2, .int 4), (3, .int (nI x)), (4, .int (nI (by2 f p1))), (5, .int (nI p)), (6, .int (nI s3)), (7, .int (nI i)), (8, .int (nI (by4 f (p + 2)))), (9, .int (nI t)), (10, .int (nI w)), (11, .int (nI k))], [], M1) _
            refine ps_st (S' := (146, [(0, .ref m0), (2, .int 4), (3, .int (nI x)), (4, .int (nI (by2 f p1))), (5, .int (nI p)), (6, .int (nI s3)), (7, .int (nI i)), (8, .int (nI (by4 f (p + 2)))), (9, .int (nI t)), (10, .int (nI w)), (11, .int (nI k))], [.int 4], M1)) rfl rfl rfl ?_
            refine ps_st (S' := (147, [(0, .ref m0), (2, .int 4), (3, .int (nI x)), (4, .int (nI (by2 f p1))), (5, .int (nI p)), (6, .int (nI s3)), (7, .int (nI i)), (8, .int (nI (by4 f (p + 2)))), (9, .int (nI t)), (10, .int (nI w)), (11, .int (nI k))], [.int 1, .int 4], M1)) rfl rfl rfl ?_
            refine ps_if2 (S1 := (160, [(0, .ref m0), (2, .int 4), (3, .int (nI x)), (4, .int (nI (by2 f p1))), (5, .int (nI p)), (6, .int (nI s3)), (7, .int (nI i)), (8, .int (nI (by4 f (p + 2)))), (10, .int (nI w))], [], M1)) (S2 := (150, [(0, .ref m0), (2, .int 4), (3, .int (nI x)), (4, .int (nI (by2 f p1))), (5, .int (nI p)), (6, .int (nI s3)), (7, .int (nI i)), (8, .int (nI (by4 f (p + 2)))), (9, .int (nI t)), (10, .int (nI w)), (11, .int (nI k))], [], M1)) rfl rfl rfl (fun c_147 => ?_) (fun c_147 => ?_)
            rotate_left
            · exact absurd (by decide) (of_decide_eq_false c_147)
            refine ps_st (S' := (161, [(0, .ref m0), (2, .int 4), (3, .int (nI x)), (4, .int (nI (by2 f p1))), (5, .int (nI p)), (6, .int (nI s3)), (7, .int (nI i)), (8, .int (nI (by4 f (p + 2)))), (10, .int (nI w))], [.int 4], M1)) rfl rfl rfl ?_
            refine ps_st (S' := (162, [(0, .ref m0), (2, .int 4), (3, .int (nI x)), (4, .int (nI (by2 f p1))), (5, .int (nI p)), (6, .int (nI s3)), (7, .int (nI i)), (8, .int (nI (by4 f (p + 2)))), (10, .int (nI w))], [.int 2, .int 4], M1)) rfl rfl rfl ?_
            refine ps_if2 (S1 := (175, [(0, .ref m0), (2, .int 4), (3, .int (nI x)), (4, .int (nI (by2 f p1))), (5, .int (nI p)), (6, .int (nI s3)), (7, .int (nI i)), (8, .int (nI (by4 f (p + 2)))), (10, .int (nI w))], [], M1)) (S2 := (165, [(0, .ref m0), (2, .int 4), (3, .int (nI x)), (4, .int (nI (by2 f p1))), (5, .int (nI p)), (6, .int (nI s3)), (7, .int (nI i)), (8, .int (nI (by4 f (p + 2)))), (10, .int (nI w))], [], M1)) rfl rfl rfl (fun c_162 => ?_) (fun c_162 => ?_)
            rotate_left
            · exact absurd (by decide) (of_decide_eq_false c_162)
            refine ps_st (S' := (176, [(0, .ref m0), (2, .int 4), (3, .int (nI x)), (4, .int (nI (by2 f p1))), (5, .int (nI p)), (6, .int (nI s3)), (7, .int (nI i)), (8, .int (nI (by4 f (p + 2)))), (10, .int (nI w))], [.int 4], M1)) rfl rfl rfl ?_
            refine ps_st (S' := (177, [(0, .ref m0), (2, .int 4), (3, .int (nI x)), (4, .int (nI (by2 f p1))), (5, .int (nI p)), (6, .int (nI s3)), (7, .int (nI i)), (8, .int (nI (by4 f (p + 2)))), (10, .int (nI w))], [.int 4, .int 4], M1)) rfl rfl rfl ?_
            refine ps_if2 (S1 := (190, [(0, .ref m0), (2, .int 4), (3, .int (nI x)), (4, .int (nI (by2 f p1))), (5, .int (nI p)), (6, .int (nI s3)), (7, .int (nI i)), (8, .int (nI (by4 f (p + 2)))), (10, .int (nI w))], [], M1)) (S2 := (180, [(0, .ref m0), (2, .int 4), (3, .int (nI x)), (4, .int (nI (by2 f p1))), (5, .int (nI p)), (6, .int (nI s3)), (7, .int (nI i)), (8, .int (nI (by4 f (p + 2)))), (10, .int (nI w))], [], M1)) rfl rfl rfl (fun c_177 => ?_) (fun c_177 => ?_)
            · exact absurd (of_decide_eq_true c_177) (by decide)
            refine ps_st (S' := (181, [(0, .ref m0), (2, .int 4), (3, .int (nI x)), (4, .int (nI (by2 f p1))), (5, .int (nI p)), (6, .int (nI s3)), (7, .int (nI i)), (8, .int (nI (by4 f (p + 2)))), (10, .int (nI w))], [.ref m0], M1)) rfl rfl rfl ?_
            refine ps_st (S' := (182, [(0, .ref m0), (2, .int 4), (3, .int (nI x)), (4, .int (nI (by2 f p1))), (5, .int (nI p)), (6, .int (nI s3)), (7, .int (nI i)), (8, .int (nI (by4 f (p + 2)))), (10, .int (nI w))], [.ref m0, .ref m0], M1)) rfl rfl rfl ?_
            refine pr_int (j := 66) (S' := (185, [(0, .ref m0), (2, .int 4), (3, .int (nI x)), (4, .int (nI (by2 f p1))), (5, .int (nI p)), (6, .int (nI s3)), (7, .int (nI i)), (8, .int (nI (by4 f (p + 2)))), (10, .int (nI w))], [.int (nI K.1), .ref m0], M1)) rfl hR1 rfl hl66 rfl ?_
            refine ps_st (S' := (186, [(0, .ref m0), (2, .int 4), (3, .int (nI x)), (4, .int (nI (by2 f p1))), (5, .int (nI p)), (6, .int (nI s3)), (7, .int (nI i)), (8, .int (nI (by4 f (p + 2)))), (10, .int (nI w))], [.int 1, .int (nI K.1), .ref m0], M1)) rfl rfl rfl ?_
            refine ps_st (S' := (187, [(0, .ref m0), (2, .int 4), (3, .int (nI x)), (4, .int (nI (by2 f p1))), (5, .int (nI p)), (6, .int (nI s3)), (7, .int (nI i)), (8, .int (nI (by4 f (p + 2)))), (10, .int (nI w))], [.int ((nI K.1) + 1), .ref m0], M1)) rfl rfl rfl ?_
            rw [nI_add1 (p := K.1) (k := 1) (x := 1) rfl (by omega)]
            show pl _ _ _ (_, [(0, .ref m0), (2, .int 4), (3, .int (nI x)), (4, .int (nI (by2 f p1))), (5, .int (nI p)), (6, .int (nI s3)), (7, .int (nI i)), (8, .int (nI (by4 f (p + 2)))), (10, .int (nI w))], [.int (nI (K.1 + 1)), .ref m0], M1) _
            refine pr_put (j := 66) rfl hR1 rfl (fun M44 I45 hR46 hi47 hI48 => ?_)
            have hi49 := (hI48 51 (by decide)).trans hl51
            have hi50 := (hI48 52 (by decide)).trans hl52
            have hi54 := (hI48 53 (by decide)).trans hl53
            have hi55 := (hI48 58 (by decide)).trans hl58
            have hi56 := (hI48 71 (by decide)).trans hl71
            have hi57 := (hI48 65 (by decide)).trans hl65
            have hi59 := (hI48 68 (by decide)).trans hl68
            have hi60 := (hI48 69 (by decide)).trans hl69
            have hi61 := (hI48 70 (by decide)).trans hl70
            have hi62 := (hI48 72 (by decide)).trans hl72
            have hF_63 := hF1.mono (pIx hI48 (by decide)) (fun _ _ => rfl)
            have hY_64 := hY1.mono (pIx hI48 (by decide)) (fun _ _ => rfl)
            have hP_65 := hP1.mono (pIx hI48 (by decide)) (fun _ _ => rfl)
            have hK_66 := hK1.mono (pIx hI48 (by decide)) (fun _ _ => rfl)
            have hEI67 := hEI1.put hI48 (by decide)
            show pl _ _ _ (190, [(0, .ref m0), (2, .int 4), (3, .int (nI x)), (4, .int (nI (by2 f p1))), (5, .int (nI p)), (6, .int (nI s3)), (7, .int (nI i)), (8, .int (nI (by4 f (p + 2)))), (10, .int (nI w))], [], M44) _
            refine ps_st (S' := (192, [(0, .ref m0), (2, .int 4), (3, .int (nI x)), (4, .int (nI (by2 f p1))), (5, .int (nI p)), (6, .int (nI s3)), (7, .int (nI i)), (8, .int (nI (by4 f (p + 2)))), (10, .int (nI w))], [.int (nI s3)], M44)) rfl rfl rfl ?_
            refine ps_st (S' := (194, [(0, .ref m0), (2, .int 4), (3, .int (nI x)), (4, .int (nI (by2 f p1))), (5, .int (nI p)), (6, .int (nI s3)), (7, .int (nI i)), (8, .int (nI (by4 f (p + 2)))), (10, .int (nI w))], [.int (nI w), .int (nI s3)], M44)) rfl rfl rfl ?_
            refine ps_st (S' := (195, [(0, .ref m0), (2, .int 4), (3, .int (nI x)), (4, .int (nI (by2 f p1))), (5, .int (nI p)), (6, .int (nI s3)), (7, .int (nI i)), (8, .int (nI (by4 f (p + 2)))), (10, .int (nI w))], [.int ((nI s3) >>> ((nI w) &&& 31))], M44)) rfl rfl rfl ?_
            refine ps_st (S' := (196, [(0, .ref m0), (2, .int 4), (3, .int (nI x)), (4, .int (nI (by2 f p1))), (5, .int (nI p)), (6, .int (nI s3)), (7, .int (nI i)), (8, .int (nI (by4 f (p + 2)))), (10, .int (nI w))], [.int 1, .int ((nI s3) >>> ((nI w) &&& 31))], M44)) rfl rfl rfl ?_
            refine ps_st (S' := (197, [(0, .ref m0), (2, .int 4), (3, .int (nI x)), (4, .int (nI (by2 f p1))), (5, .int (nI p)), (6, .int (nI s3)), (7, .int (nI i)), (8, .int (nI (by4 f (p + 2)))), (10, .int (nI w))], [.int (((nI s3) >>> ((nI w) &&& 31)) &&& 1)], M44)) rfl rfl rfl ?_
            rw [shr_k s3 (by omega) w (by omega)]
            show pl _ _ _ (_, [(0, .ref m0), (2, .int 4), (3, .int (nI x)), (4, .int (nI (by2 f p1))), (5, .int (nI p)), (6, .int (nI s3)), (7, .int (nI i)), (8, .int (nI (by4 f (p + 2)))), (10, .int (nI w))], [.int (nI (sb s3 w))], M44) _
            refine ps_st (S' := (198, [(0, .ref m0), (2, .int 4), (3, .int (nI x)), (4, .int (nI (by2 f p1))), (5, .int (nI p)), (6, .int (nI s3)), (7, .int (nI i)), (8, .int (nI (by4 f (p + 2)))), (10, .int (nI w))], [.int 1, .int (nI (sb s3 w))], M44)) rfl rfl rfl ?_
            refine ps_if2 (S1 := (212, [(0, .ref m0), (2, .int 4), (3, .int (nI x)), (4, .int (nI (by2 f p1))), (5, .int (nI p)), (6, .int (nI s3)), (7, .int (nI i)), (8, .int (nI (by4 f (p + 2)))), (10, .int (nI w))], [], M44)) (S2 := (201, [(0, .ref m0), (2, .int 4), (3, .int (nI x)), (4, .int (nI (by2 f p1))), (5, .int (nI p)), (6, .int (nI s3)), (7, .int (nI i)), (8, .int (nI (by4 f (p + 2)))), (10, .int (nI w))], [], M44)) rfl rfl rfl (fun c_198 => ?_) (fun c_198 => ?_)
            · have c_198 : ¬ (nI (sb s3 w)) = 1 := of_decide_eq_true c_198
              have n_198 : ¬ (sb s3 w = 1) := fun h9 => c_198 ((eq_nI (p := sb s3 w) (n := 1) (Nat.lt_trans (sb_lt _ _) (by decide)) (by decide)).mpr h9)
              refine ps_st (S' := (213, [(0, .ref m0), (2, .int 4), (3, .int (nI x)), (4, .int (nI (by2 f p1))), (5, .int (nI p)), (6, .int (nI s3)), (7, .int (nI i)), (8, .int (nI (by4 f (p + 2)))), (10, .int (nI w))], [.ref m0], M44)) rfl rfl rfl ?_
              refine ps_st (S' := (215, [(0, .ref m0), (2, .int 4), (3, .int (nI x)), (4, .int (nI (by2 f p1))), (5, .int (nI p)), (6, .int (nI s3)), (7, .int (nI i)), (8, .int (nI (by4 f (p + 2)))), (10, .int (nI w))], [.int (nI w), .ref m0], M44)) rfl rfl rfl ?_
              refine ps_st (S' := (217, [(0, .ref m0), (2, .int 4), (3, .int (nI x)), (4, .int (nI (by2 f p1))), (5, .int (nI p)), (6, .int (nI s3)), (7, .int (nI i)), (8, .int (nI (by4 f (p + 2)))), (10, .int (nI w))], [.int (nI p), .int (nI w), .ref m0], M44)) rfl rfl rfl ?_
              refine ps_st (S' := (219, [(0, .ref m0), (2, .int 4), (3, .int (nI x)), (4, .int (nI (by2 f p1))), (5, .int (nI p)), (6, .int (nI s3)), (7, .int (nI i)), (8, .int (nI (by4 f (p + 2)))), (10, .int (nI w))], [.int (nI p), .int (nI p), .int (nI w), .ref m0], M44)) rfl rfl rfl ?_
              refine ps_st (S' := (221, [(0, .ref m0), (2, .int 4), (3, .int (nI x)), (4, .int (nI (by2 f p1))), (5, .int (nI p)), (6, .int (nI s3)), (7, .int (nI i)), (8, .int (nI (by4 f (p + 2)))), (10, .int (nI w))], [.int 6, .int (nI p), .int (nI p), .int (nI w), .ref m0], M44)) rfl rfl rfl ?_
              refine ps_st (S' := (222, [(0, .ref m0), (2, .int 4), (3, .int (nI x)), (4, .int (nI (by2 f p1))), (5, .int (nI p)), (6, .int (nI s3)), (7, .int (nI i)), (8, .int (nI (by4 f (p + 2)))), (10, .int (nI w))], [.int ((nI p) + 6), .int (nI p), .int (nI w), .ref m0], M44)) rfl rfl rfl ?_
              rw [nI_add1 (p := p) (k := 6) (x := 6) rfl (by omega)]
              show pl _ _ _ (_, [(0, .ref m0), (2, .int 4), (3, .int (nI x)), (4, .int (nI (by2 f p1))), (5, .int (nI p)), (6, .int (nI s3)), (7, .int (nI i)), (8, .int (nI (by4 f (p + 2)))), (10, .int (nI w))], [.int (nI (p + 6)), .int (nI p), .int (nI w), .ref m0], M44) _
              refine ps_st (S' := (224, [(0, .ref m0), (2, .int 4), (3, .int (nI x)), (4, .int (nI (by2 f p1))), (5, .int (nI p)), (6, .int (nI s3)), (7, .int (nI i)), (8, .int (nI (by4 f (p + 2)))), (10, .int (nI w))], [.int (nI p), .int (nI (p + 6)), .int (nI p), .int (nI w), .ref m0], M44)) rfl rfl rfl ?_
              refine ps_st (S' := (226, [(0, .ref m0), (2, .int 4), (3, .int (nI x)), (4, .int (nI (by2 f p1))), (5, .int (nI p)), (6, .int (nI s3)), (7, .int (nI i)), (8, .int (nI (by4 f (p + 2)))), (10, .int (nI w))], [.int 6, .int (nI p), .int (nI (p + 6)), .int (nI p), .int (nI w), .ref m0], M44)) rfl rfl rfl ?_
              refine ps_st (S' := (227, [(0, .ref m0), (2, .int 4), (3, .int (nI x)), (4, .int (nI (by2 f p1))), (5, .int (nI p)), (6, .int (nI s3)), (7, .int (nI i)), (8, .int (nI (by4 f (p + 2)))), (10, .int (nI w))], [.int ((nI p) + 6), .int (nI (p + 6)), .int (nI p), .int (nI w), .ref m0], M44)) rfl rfl rfl ?_
              rw [nI_add1 (p := p) (k := 6) (x := 6) rfl (by omega)]
              show pl _ _ _ (_, [(0, .ref m0), (2, .int 4), (3, .int (nI x)), (4, .int (nI (by2 f p1))), (5, .int (nI p)), (6, .int (nI s3)), (7, .int (nI i)), (8, .int (nI (by4 f (p + 2)))), (10, .int (nI w))], [.int (nI (p + 6)), .int (nI (p + 6)), .int (nI p), .int (nI w), .ref m0], M44) _
              refine ps_st (S' := (229, [(0, .ref m0), (2, .int 4), (3, .int (nI x)), (4, .int (nI (by2 f p1))), (5, .int (nI p)), (6, .int (nI s3)), (7, .int (nI i)), (8, .int (nI (by4 f (p + 2)))), (10, .int (nI w))], [.int (nI (by4 f (p + 2))), .int (nI (p + 6)), .int (nI (p + 6)), .int (nI p), .int (nI w), .ref m0], M44)) rfl rfl rfl ?_
              refine ps_st (S' := (230, [(0, .ref m0), (2, .int 4), (3, .int (nI x)), (4, .int (nI (by2 f p1))), (5, .int (nI p)), (6, .int (nI s3)), (7, .int (nI i)), (8, .int (nI (by4 f (p + 2)))), (10, .int (nI w))], [.int ((nI (p + 6)) + (nI (by4 f (p + 2)))), .int (nI (p + 6)), .int (nI p), .int (nI w), .ref m0], M44)) rfl rfl rfl ?_
              rw [nI_add1 (p := p + 6) (k := by4 f (p + 2)) (x := (nI (by4 f (p + 2)))) rfl (by omega)]
              show pl _ _ _ (_, [(0, .ref m0), (2, .int 4), (3, .int (nI x)), (4, .int (nI (by2 f p1))), (5, .int (nI p)), (6, .int (nI s3)), (7, .int (nI i)), (8, .int (nI (by4 f (p + 2)))), (10, .int (nI w))], [.int (nI (p + 6 + by4 f (p + 2))), .int (nI (p + 6)), .int (nI p), .int (nI w), .ref m0], M44) _
              refine ps_st (S' := (231, [(0, .ref m0), (2, .int 4), (3, .int (nI x)), (4, .int (nI (by2 f p1))), (5, .int (nI p)), (6, .int (nI s3)), (7, .int (nI i)), (8, .int (nI (by4 f (p + 2)))), (10, .int (nI w))], [.int (nI x), .int (nI (p + 6 + by4 f (p + 2))), .int (nI (p + 6)), .int (nI p), .int (nI w), .ref m0], M44)) rfl rfl rfl ?_
              refine ps_st (S' := (233, [(0, .ref m0), (2, .int 4), (3, .int (nI x)), (4, .int (nI (by2 f p1))), (5, .int (nI p)), (6, .int (nI s3)), (7, .int (nI i)), (8, .int (nI (by4 f (p + 2)))), (10, .int (nI w))], [.int (nI s3), .int (nI x), .int (nI (p + 6 + by4 f (p + 2))), .int (nI (p + 6)), .int (nI p), .int (nI w), .ref m0], M44)) rfl rfl rfl ?_
              refine pl_call (a := [.ref m0, .int (nI w), .int (nI p), .int (nI (p + 6)), .int (nI (p + 6 + by4 f (p + 2))), .int (nI x), .int (nI s3)]) (rest := []) rfl rfl rfl (rd_attrK (n := n) (f := f) (tx := tx) (cN := cN) (A := A) (N := N) (mj := mj) (E := E) (p := p) (e := (p + 6 + by4 f (p + 2))) (x := x) (s3 := s3) (s2 := (so s2 (w + 1))) (fl := fl) (w := w) (nb := bc) (t := (nI p)) (n5 := K.2.2.1) (n8 := K.2.2.2.1) (n10 := K.2.2.2.2.1) (n7 := (b7 K)) (n9 := K.2.2.2.2.2) hR46 hi49 hi50 hi54 hi55 hi56 hi57 hi59 hi60 hi61 hi62 hF_63 hY_64 hP_65 (hEP) (hN) (hmj) (⟨by omega, by omega⟩) (hl) (hf6) (hw2) (fun h9 => (by rw [sb_so, if_neg (by omega), hb 7 (by decide) (by decide)])) (fun h9 => (by rw [sb_so, if_neg (by omega), hb 6 (by decide) (by decide)]))) (fun v68 M69 q70 => ?_)
              rcases q70 with q70 | q70 | q70 | q70
              · skip
                obtain ⟨I71, R72, q233_s, rfl, hR73, hI74, hX75⟩ := q70
                have hi76 := (hI74 51 (by decide)).trans hi49
                have hi77 := (hI74 52 (by decide)).trans hi50
                have hi78 := (hI74 53 (by decide)).trans hi54
                have hi79 := (hI74 58 (by decide)).trans hi55
                have hi80 := (hI74 66 (by decide)).trans hi47
                have hF_81 := hF_63.mono (cIx hI74 (by decide)) (cRx hX75 (by decide))
                have hY_82 := hY_64.mono (cIx hI74 (by decide)) (cRx hX75 (by decide))
                have hP_83 := hP_65.mono (cIx hI74 (by decide)) (cRx hX75 (by decide))
                have hK_84 := hK_66.mono (cIx hI74 (by decide)) (cRx hX75 (by decide))
                have hEI85 := hEI67.tr hI74 (by decide)
                have hER86 := hER1.tr hX75 (by decide)
                show pl _ _ _ (236, [(0, .ref m0), (2, .int 4), (3, .int (nI x)), (4, .int (nI (by2 f p1))), (5, .int (nI p)), (6, .int (nI s3)), (7, .int (nI i)), (8, .int (nI (by4 f (p + 2)))), (10, .int (nI w))], [.int 30], M69) _
                refine ps_st (S' := (238, [(11, .int 30), (0, .ref m0), (2, .int 4), (3, .int (nI x)), (4, .int (nI (by2 f p1))), (5, .int (nI p)), (6, .int (nI s3)), (7, .int (nI i)), (8, .int (nI (by4 f (p + 2)))), (10, .int (nI w))], [], M69)) rfl rfl rfl ?_
                refine ps_st (S' := (240, [(11, .int 30), (0, .ref m0), (2, .int 4), (3, .int (nI x)), (4, .int (nI (by2 f p1))), (5, .int (nI p)), (6, .int (nI s3)), (7, .int (nI i)), (8, .int (nI (by4 f (p + 2)))), (10, .int (nI w))], [.int (nI s3)], M69)) rfl rfl rfl ?_
                refine ps_st (S' := (241, [(11, .int 30), (0, .ref m0), (2, .int 4), (3, .int (nI x)), (4, .int (nI (by2 f p1))), (5, .int (nI p)), (6, .int (nI s3)), (7, .int (nI i)), (8, .int (nI (by4 f (p + 2)))), (10, .int (nI w))], [.int 1, .int (nI s3)], M69)) rfl rfl rfl ?_
                refine ps_st (S' := (243, [(11, .int 30), (0, .ref m0), (2, .int 4), (3, .int (nI x)), (4, .int (nI (by2 f p1))), (5, .int (nI p)), (6, .int (nI s3)), (7, .int (nI i)), (8, .int (nI (by4 f (p + 2)))), (10, .int (nI w))], [.int (nI w), .int 1, .int (nI s3)], M69)) rfl rfl rfl ?_
                refine ps_st (S' := (244, [(11, .int 30), (0, .ref m0), (2, .int 4), (3, .int (nI x)), (4, .int (nI (by2 f p1))), (5, .int (nI p)), (6, .int (nI s3)), (7, .int (nI i)), (8, .int (nI (by4 f (p + 2)))), (10, .int (nI w))], [.int (1 <<< ((nI w) &&& 31)), .int (nI s3)], M69)) rfl rfl rfl ?_
                refine ps_st (S' := (245, [(11, .int 30), (0, .ref m0), (2, .int 4), (3, .int (nI x)), (4, .int (nI (by2 f p1))), (5, .int (nI p)), (6, .int (nI s3)), (7, .int (nI i)), (8, .int (nI (by4 f (p + 2)))), (10, .int (nI w))], [.int ((nI s3) ||| (1 <<< ((nI w) &&& 31)))], M69)) rfl rfl rfl ?_
                rw [or_k s3 w (by omega)]
                show pl _ _ _ (_, [(11, .int 30), (0, .ref m0), (2, .int 4), (3, .int (nI x)), (4, .int (nI (by2 f p1))), (5, .int (nI p)), (6, .int (nI s3)), (7, .int (nI i)), (8, .int (nI (by4 f (p + 2)))), (10, .int (nI w))], [.int (nI (so s3 w))], M69) _
                refine ps_st (S' := (247, [(6, .int (nI (so s3 w))), (11, .int 30), (0, .ref m0), (2, .int 4), (3, .int (nI x)), (4, .int (nI (by2 f p1))), (5, .int (nI p)), (7, .int (nI i)), (8, .int (nI (by4 f (p + 2)))), (10, .int (nI w))], [], M69)) rfl rfl rfl ?_
                refine ps_st (S' := (249, [(6, .int (nI (so s3 w))), (11, .int 30), (0, .ref m0), (2, .int 4), (3, .int (nI x)), (4, .int (nI (by2 f p1))), (5, .int (nI p)), (7, .int (nI i)), (8, .int (nI (by4 f (p + 2)))), (10, .int (nI w))], [.int 30], M69)) rfl rfl rfl ?_
                refine ps_if (S1 := (261, [(0, .ref m0), (2, .int 4), (3, .int (nI x)), (4, .int (nI (by2 f p1))), (5, .int (nI p)), (6, .int (nI (so s3 w))), (7, .int (nI i)), (8, .int (nI (by4 f (p + 2)))), (11, .int 30)], [], M69)) (S2 := (252, [(6, .int (nI (so s3 w))), (11, .int 30), (0, .ref m0), (2, .int 4), (3, .int (nI x)), (4, .int (nI (by2 f p1))), (5, .int (nI p)), (7, .int (nI i)), (8, .int (nI (by4 f (p + 2)))), (10, .int (nI w))], [], M69)) rfl rfl rfl (fun c_249 => ?_) (fun c_249 => ?_)
                · exact absurd (of_decide_eq_true c_249) (by decide)
                refine ps_st (S' := (253, [(6, .int (nI (so s3 w))), (11, .int 30), (0, .ref m0), (2, .int 4), (3, .int (nI x)), (4, .int (nI (by2 f p1))), (5, .int (nI p)), (7, .int (nI i)), (8, .int (nI (by4 f (p + 2)))), (10, .int (nI w))], [.ref m0], M69)) rfl rfl rfl ?_
                refine ps_st (S' := (255, [(6, .int (nI (so s3 w))), (11, .int 30), (0, .ref m0), (2, .int 4), (3, .int (nI x)), (4, .int (nI (by2 f p1))), (5, .int (nI p)), (7, .int (nI i)), (8, .int (nI (by4 f (p + 2)))), (10, .int (nI w))], [.int 30, .ref m0], M69)) rfl rfl rfl ?_
                refine ps_st (S' := (257, [(6, .int (nI (so s3 w))), (11, .int 30), (0, .ref m0), (2, .int 4), (3, .int (nI x)), (4, .int (nI (by2 f p1))), (5, .int (nI p)), (7, .int (nI i)), (8, .int (nI (by4 f (p + 2)))), (10, .int (nI w))], [.int (nI p), .int 30, .ref m0], M69)) rfl rfl rfl ?_
                refine pl_call (a := [.ref m0, .int 30, .int (nI p)]) (rest := []) rfl rfl rfl (rd_wrong (x1 := 30) (x2 := (nI p)) hR73) (fun v87 M88 q89 => ?_)
                obtain ⟨I90, R91, rfl, hR92, hI93, hX94, hi95, hi96⟩ := q89
                have hi97 := (hI93 51 (by decide)).trans hi76
                have hi98 := (hI93 52 (by decide)).trans hi77
                have hi99 := (hI93 53 (by decide)).trans hi78
                have hi100 := (hI93 58 (by decide)).trans hi79
                have hi101 := (hI93 66 (by decide)).trans hi80
                have hF_102 := hF_81.mono (cIx hI93 (by decide)) (cRx hX94 (by decide))
                have hY_103 := hY_82.mono (cIx hI93 (by decide)) (cRx hX94 (by decide))
                have hP_104 := hP_83.mono (cIx hI93 (by decide)) (cRx hX94 (by decide))
                have hK_105 := hK_84.mono (cIx hI93 (by decide)) (cRx hX94 (by decide))
                have hEI106 := hEI85.tr hI93 (by decide)
                have hER107 := hER86.tr hX94 (by decide)
                show pl _ _ _ (260, [(6, .int (nI (so s3 w))), (11, .int 30), (0, .ref m0), (2, .int 4), (3, .int (nI x)), (4, .int (nI (by2 f p1))), (5, .int (nI p)), (7, .int (nI i)), (8, .int (nI (by4 f (p + 2)))), (10, .int (nI w))], [.int 0], M88) _
                refine ps_st (S' := (261, [(0, .ref m0), (2, .int 4), (3, .int (nI x)), (4, .int (nI (by2 f p1))), (5, .int (nI p)), (6, .int (nI (so s3 w))), (7, .int (nI i)), (8, .int (nI (by4 f (p + 2)))), (11, .int 30)], [], M88)) rfl rfl rfl ?_
                refine ps_st (S' := (263, [(0, .ref m0), (2, .int 4), (3, .int (nI x)), (4, .int (nI (by2 f p1))), (5, .int (nI p)), (6, .int (nI (so s3 w))), (7, .int (nI i)), (8, .int (nI (by4 f (p + 2)))), (11, .int 30)], [.int 30], M88)) rfl rfl rfl ?_
                refine ps_if (S1 := (268, [(0, .ref m0), (2, .int 4), (3, .int (nI x)), (4, .int (nI (by2 f p1))), (5, .int (nI p)), (6, .int (nI (so s3 w))), (7, .int (nI i)), (8, .int (nI (by4 f (p + 2))))], [], M88)) (S2 := (266, [(0, .ref m0), (2, .int 4), (3, .int (nI x)), (4, .int (nI (by2 f p1))), (5, .int (nI p)), (6, .int (nI (so s3 w))), (7, .int (nI i)), (8, .int (nI (by4 f (p + 2)))), (11, .int 30)], [], M88)) rfl rfl rfl (fun c_263 => ?_) (fun c_263 => ?_)
                · exact absurd (of_decide_eq_true c_263) (by decide)
                refine ps_st (S' := (267, [(0, .ref m0), (2, .int 4), (3, .int (nI x)), (4, .int (nI (by2 f p1))), (5, .int (nI p)), (6, .int (nI (so s3 w))), (7, .int (nI i)), (8, .int (nI (by4 f (p + 2)))), (11, .int 30)], [.int (-1)], M88)) rfl rfl rfl ?_
                exact ps_ret rfl rfl (Or.inl ⟨(30, p), I90, R91, by
                    rw [← hs9, clS_k (i := i) (p := p) (s := s2) hi0 h1 hsm (by omega) hws, if_pos q233_s], rfl, hR92, hEI106, hER107, hi95, hi96⟩)
              · skip
                obtain ⟨r108, I109, R110, q233_s, q233_b, q233_l, rfl, hR111, hI112, hX113⟩ := q70
                have hi114 := (hI112 51 (by decide)).trans hi49
                have hi115 := (hI112 52 (by decide)).trans hi50
                have hi116 := (hI112 53 (by decide)).trans hi54
                have hi117 := (hI112 58 (by decide)).trans hi55
                have hi118 := (hI112 66 (by decide)).trans hi47
                have hF_119 := hF_63.mono (cIx hI112 (by decide)) (cRx hX113 (by decide))
                have hY_120 := hY_64.mono (cIx hI112 (by decide)) (cRx hX113 (by decide))
                have hP_121 := hP_65.mono (cIx hI112 (by decide)) (cRx hX113 (by decide))
                have hK_122 := hK_66.mono (cIx hI112 (by decide)) (cRx hX113 (by decide))
                have hEI123 := hEI67.tr hI112 (by decide)
                have hER124 := hER1.tr hX113 (by decide)
                show pl _ _ _ (236, [(0, .ref m0), (2, .int 4), (3, .int (nI x)), (4, .int (nI (by2 f p1))), (5, .int (nI p)), (6, .int (nI s3)), (7, .int (nI i)), (8, .int (nI (by4 f (p + 2)))), (10, .int (nI w))], [.int (nI r108)], M69) _
                refine ps_st (S' := (238, [(11, .int (nI r108)), (0, .ref m0), (2, .int 4), (3, .int (nI x)), (4, .int (nI (by2 f p1))), (5, .int (nI p)), (6, .int (nI s3)), (7, .int (nI i)), (8, .int (nI (by4 f (p + 2)))), (10, .int (nI w))], [], M69)) rfl rfl rfl ?_
                refine ps_st (S' := (240, [(11, .int (nI r108)), (0, .ref m0), (2, .int 4), (3, .int (nI x)), (4, .int (nI (by2 f p1))), (5, .int (nI p)), (6, .int (nI s3)), (7, .int (nI i)), (8, .int (nI (by4 f (p + 2)))), (10, .int (nI w))], [.int (nI s3)], M69)) rfl rfl rfl ?_
                refine ps_st (S' := (241, [(11, .int (nI r108)), (0, .ref m0), (2, .int 4), (3, .int (nI x)), (4, .int (nI (by2 f p1))), (5, .int (nI p)), (6, .int (nI s3)), (7, .int (nI i)), (8, .int (nI (by4 f (p + 2)))), (10, .int (nI w))], [.int 1, .int (nI s3)], M69)) rfl rfl rfl ?_
                refine ps_st (S' := (243, [(11, .int (nI r108)), (0, .ref m0), (2, .int 4), (3, .int (nI x)), (4, .int (nI (by2 f p1))), (5, .int (nI p)), (6, .int (nI s3)), (7, .int (nI i)), (8, .int (nI (by4 f (p + 2)))), (10, .int (nI w))], [.int (nI w), .int 1, .int (nI s3)], M69)) rfl rfl rfl ?_
                refine ps_st (S' := (244, [(11, .int (nI r108)), (0, .ref m0), (2, .int 4), (3, .int (nI x)), (4, .int (nI (by2 f p1))), (5, .int (nI p)), (6, .int (nI s3)), (7, .int (nI i)), (8, .int (nI (by4 f (p + 2)))), (10, .int (nI w))], [.int (1 <<< ((nI w) &&& 31)), .int (nI s3)], M69)) rfl rfl rfl ?_
                refine ps_st (S' := (245, [(11, .int (nI r108)), (0, .ref m0), (2, .int 4), (3, .int (nI x)), (4, .int (nI (by2 f p1))), (5, .int (nI p)), (6, .int (nI s3)), (7, .int (nI i)), (8, .int (nI (by4 f (p + 2)))), (10, .int (nI w))], [.int ((nI s3) ||| (1 <<< ((nI w) &&& 31)))], M69)) rfl rfl rfl ?_
                rw [or_k s3 w (by omega)]
                show pl _ _ _ (_, [(11, .int (nI r108)), (0, .ref m0), (2, .int 4), (3, .int (nI x)), (4, .int (nI (by2 f p1))), (5, .int (nI p)), (6, .int (nI s3)), (7, .int (nI i)), (8, .int (nI (by4 f (p + 2)))), (10, .int (nI w))], [.int (nI (so s3 w))], M69) _
                refine ps_st (S' := (247, [(6, .int (nI (so s3 w))), (11, .int (nI r108)), (0, .ref m0), (2, .int 4), (3, .int (nI x)), (4, .int (nI (by2 f p1))), (5, .int (nI p)), (7, .int (nI i)), (8, .int (nI (by4 f (p + 2)))), (10, .int (nI w))], [], M69)) rfl rfl rfl ?_
                refine ps_st (S' := (249, [(6, .int (nI (so s3 w))), (11, .int (nI r108)), (0, .ref m0), (2, .int 4), (3, .int (nI x)), (4, .int (nI (by2 f p1))), (5, .int (nI p)), (7, .int (nI i)), (8, .int (nI (by4 f (p + 2)))), (10, .int (nI w))], [.int (nI r108)], M69)) rfl rfl rfl ?_
                refine ps_if (S1 := (261, [(0, .ref m0), (2, .int 4), (3, .int (nI x)), (4, .int (nI (by2 f p1))), (5, .int (nI p)), (6, .int (nI (so s3 w))), (7, .int (nI i)), (8, .int (nI (by4 f (p + 2)))), (11, .int (nI r108))], [], M69)) (S2 := (252, [(6, .int (nI (so s3 w))), (11, .int (nI r108)), (0, .ref m0), (2, .int 4), (3, .int (nI x)), (4, .int (nI (by2 f p1))), (5, .int (nI p)), (7, .int (nI i)), (8, .int (nI (by4 f (p + 2)))), (10, .int (nI w))], [], M69)) rfl rfl rfl (fun c_249 => ?_) (fun c_249 => ?_)
                · exact absurd (of_decide_eq_true c_249) (show ¬ ((nI r108) ≤ 0) from fun h9 => absurd ((le_nI (p := r108) (n := 0) (by omega) (by decide)).mp h9) (by omega))
                refine ps_st (S' := (253, [(6, .int (nI (so s3 w))), (11, .int (nI r108)), (0, .ref m0), (2, .int 4), (3, .int (nI x)), (4, .int (nI (by2 f p1))), (5, .int (nI p)), (7, .int (nI i)), (8, .int (nI (by4 f (p + 2)))), (10, .int (nI w))], [.ref m0], M69)) rfl rfl rfl ?_
                refine ps_st (S' := (255, [(6, .int (nI (so s3 w))), (11, .int (nI r108)), (0, .ref m0), (2, .int 4), (3, .int (nI x)), (4, .int (nI (by2 f p1))), (5, .int (nI p)), (7, .int (nI i)), (8, .int (nI (by4 f (p + 2)))), (10, .int (nI w))], [.int (nI r108), .ref m0], M69)) rfl rfl rfl ?_
                refine ps_st (S' := (257, [(6, .int (nI (so s3 w))), (11, .int (nI r108)), (0, .ref m0), (2, .int 4), (3, .int (nI x)), (4, .int (nI (by2 f p1))), (5, .int (nI p)), (7, .int (nI i)), (8, .int (nI (by4 f (p + 2)))), (10, .int (nI w))], [.int (nI p), .int (nI r108), .ref m0], M69)) rfl rfl rfl ?_
                refine pl_call (a := [.ref m0, .int (nI r108), .int (nI p)]) (rest := []) rfl rfl rfl (rd_wrong (x1 := (nI r108)) (x2 := (nI p)) hR111) (fun v125 M126 q127 => ?_)
                obtain ⟨I128, R129, rfl, hR130, hI131, hX132, hi133, hi134⟩ := q127
                have hi135 := (hI131 51 (by decide)).trans hi114
                have hi136 := (hI131 52 (by decide)).trans hi115
                have hi137 := (hI131 53 (by decide)).trans hi116
                have hi138 := (hI131 58 (by decide)).trans hi117
                have hi139 := (hI131 66 (by decide)).trans hi118
                have hF_140 := hF_119.mono (cIx hI131 (by decide)) (cRx hX132 (by decide))
                have hY_141 := hY_120.mono (cIx hI131 (by decide)) (cRx hX132 (by decide))
                have hP_142 := hP_121.mono (cIx hI131 (by decide)) (cRx hX132 (by decide))
                have hK_143 := hK_122.mono (cIx hI131 (by decide)) (cRx hX132 (by decide))
                have hEI144 := hEI123.tr hI131 (by decide)
                have hER145 := hER124.tr hX132 (by decide)
                show pl _ _ _ (260, [(6, .int (nI (so s3 w))), (11, .int (nI r108)), (0, .ref m0), (2, .int 4), (3, .int (nI x)), (4, .int (nI (by2 f p1))), (5, .int (nI p)), (7, .int (nI i)), (8, .int (nI (by4 f (p + 2)))), (10, .int (nI w))], [.int 0], M126) _
                refine ps_st (S' := (261, [(0, .ref m0), (2, .int 4), (3, .int (nI x)), (4, .int (nI (by2 f p1))), (5, .int (nI p)), (6, .int (nI (so s3 w))), (7, .int (nI i)), (8, .int (nI (by4 f (p + 2)))), (11, .int (nI r108))], [], M126)) rfl rfl rfl ?_
                refine ps_st (S' := (263, [(0, .ref m0), (2, .int 4), (3, .int (nI x)), (4, .int (nI (by2 f p1))), (5, .int (nI p)), (6, .int (nI (so s3 w))), (7, .int (nI i)), (8, .int (nI (by4 f (p + 2)))), (11, .int (nI r108))], [.int (nI r108)], M126)) rfl rfl rfl ?_
                refine ps_if (S1 := (268, [(0, .ref m0), (2, .int 4), (3, .int (nI x)), (4, .int (nI (by2 f p1))), (5, .int (nI p)), (6, .int (nI (so s3 w))), (7, .int (nI i)), (8, .int (nI (by4 f (p + 2))))], [], M126)) (S2 := (266, [(0, .ref m0), (2, .int 4), (3, .int (nI x)), (4, .int (nI (by2 f p1))), (5, .int (nI p)), (6, .int (nI (so s3 w))), (7, .int (nI i)), (8, .int (nI (by4 f (p + 2)))), (11, .int (nI r108))], [], M126)) rfl rfl rfl (fun c_263 => ?_) (fun c_263 => ?_)
                · exact absurd (of_decide_eq_true c_263) (show ¬ ((nI r108) = 0) from fun h9 => absurd ((eq_nI (p := r108) (n := 0) (by omega) (by decide)).mp h9) (by omega))
                refine ps_st (S' := (267, [(0, .ref m0), (2, .int 4), (3, .int (nI x)), (4, .int (nI (by2 f p1))), (5, .int (nI p)), (6, .int (nI (so s3 w))), (7, .int (nI i)), (8, .int (nI (by4 f (p + 2)))), (11, .int (nI r108))], [.int (-1)], M126)) rfl rfl rfl ?_
                exact ps_ret rfl rfl (Or.inl ⟨(r108, p), I128, R129, by
                    rw [← hs9, clS_k (i := i) (p := p) (s := s2) hi0 h1 hsm (by omega) hws, if_neg (fun h9 => h9 q233_s)]; rcases q233_b with q9 | q9 <;> rw [q9], rfl, hR130, hEI144, hER145, hi133, hi134⟩)
              · skip
                obtain ⟨e9146, I147, R148, q233_s, q233_b, rfl, hR149, hI150, hX151, hi152, hi153⟩ := q70
                have hi154 := (hI150 51 (by decide)).trans hi49
                have hi155 := (hI150 52 (by decide)).trans hi50
                have hi156 := (hI150 53 (by decide)).trans hi54
                have hi157 := (hI150 58 (by decide)).trans hi55
                have hi158 := (hI150 66 (by decide)).trans hi47
                have hF_159 := hF_63.mono (cIx hI150 (by decide)) (cRx hX151 (by decide))
                have hY_160 := hY_64.mono (cIx hI150 (by decide)) (cRx hX151 (by decide))
                have hP_161 := hP_65.mono (cIx hI150 (by decide)) (cRx hX151 (by decide))
                have hK_162 := hK_66.mono (cIx hI150 (by decide)) (cRx hX151 (by decide))
                have hEI163 := hEI67.tr hI150 (by decide)
                have hER164 := hER1.tr hX151 (by decide)
                show pl _ _ _ (236, [(0, .ref m0), (2, .int 4), (3, .int (nI x)), (4, .int (nI (by2 f p1))), (5, .int (nI p)), (6, .int (nI s3)), (7, .int (nI i)), (8, .int (nI (by4 f (p + 2)))), (10, .int (nI w))], [.int (-1)], M69) _
                refine ps_st (S' := (238, [(11, .int (-1)), (0, .ref m0), (2, .int 4), (3, .int (nI x)), (4, .int (nI (by2 f p1))), (5, .int (nI p)), (6, .int (nI s3)), (7, .int (nI i)), (8, .int (nI (by4 f (p + 2)))), (10, .int (nI w))], [], M69)) rfl rfl rfl ?_
                refine ps_st (S' := (240, [(11, .int (-1)), (0, .ref m0), (2, .int 4), (3, .int (nI x)), (4, .int (nI (by2 f p1))), (5, .int (nI p)), (6, .int (nI s3)), (7, .int (nI i)), (8, .int (nI (by4 f (p + 2)))), (10, .int (nI w))], [.int (nI s3)], M69)) rfl rfl rfl ?_
                refine ps_st (S' := (241, [(11, .int (-1)), (0, .ref m0), (2, .int 4), (3, .int (nI x)), (4, .int (nI (by2 f p1))), (5, .int (nI p)), (6, .int (nI s3)), (7, .int (nI i)), (8, .int (nI (by4 f (p + 2)))), (10, .int (nI w))], [.int 1, .int (nI s3)], M69)) rfl rfl rfl ?_
                refine ps_st (S' := (243, [(11, .int (-1)), (0, .ref m0), (2, .int 4), (3, .int (nI x)), (4, .int (nI (by2 f p1))), (5, .int (nI p)), (6, .int (nI s3)), (7, .int (nI i)), (8, .int (nI (by4 f (p + 2)))), (10, .int (nI w))], [.int (nI w), .int 1, .int (nI s3)], M69)) rfl rfl rfl ?_
                refine ps_st (S' := (244, [(11, .int (-1)), (0, .ref m0), (2, .int 4), (3, .int (nI x)), (4, .int (nI (by2 f p1))), (5, .int (nI p)), (6, .int (nI s3)), (7, .int (nI i)), (8, .int (nI (by4 f (p + 2)))), (10, .int (nI w))], [.int (1 <<< ((nI w) &&& 31)), .int (nI s3)], M69)) rfl rfl rfl ?_
                refine ps_st (S' := (245, [(11, .int (-1)), (0, .ref m0), (2, .int 4), (3, .int (nI x)), (4, .int (nI (by2 f p1))), (5, .int (nI p)), (6, .int (nI s3)), (7, .int (nI i)), (8, .int (nI (by4 f (p + 2)))), (10, .int (nI w))], [.int ((nI s3) ||| (1 <<< ((nI w) &&& 31)))], M69)) rfl rfl rfl ?_
                rw [or_k s3 w (by omega)]
                show pl _ _ _ (_, [(11, .int (-1)), (0, .ref m0), (2, .int 4), (3, .int (nI x)), (4, .int (nI (by2 f p1))), (5, .int (nI p)), (6, .int (nI s3)), (7, .int (nI i)), (8, .int (nI (by4 f (p + 2)))), (10, .int (nI w))], [.int (nI (so s3 w))], M69) _
                refine ps_st (S' := (247, [(6, .int (nI (so s3 w))), (11, .int (-1)), (0, .ref m0), (2, .int 4), (3, .int (nI x)), (4, .int (nI (by2 f p1))), (5, .int (nI p)), (7, .int (nI i)), (8, .int (nI (by4 f (p + 2)))), (10, .int (nI w))], [], M69)) rfl rfl rfl ?_
                refine ps_st (S' := (249, [(6, .int (nI (so s3 w))), (11, .int (-1)), (0, .ref m0), (2, .int 4), (3, .int (nI x)), (4, .int (nI (by2 f p1))), (5, .int (nI p)), (7, .int (nI i)), (8, .int (nI (by4 f (p + 2)))), (10, .int (nI w))], [.int (-1)], M69)) rfl rfl rfl ?_
                refine ps_if (S1 := (261, [(0, .ref m0), (2, .int 4), (3, .int (nI x)), (4, .int (nI (by2 f p1))), (5, .int (nI p)), (6, .int (nI (so s3 w))), (7, .int (nI i)), (8, .int (nI (by4 f (p + 2)))), (11, .int (-1))], [], M69)) (S2 := (252, [(6, .int (nI (so s3 w))), (11, .int (-1)), (0, .ref m0), (2, .int 4), (3, .int (nI x)), (4, .int (nI (by2 f p1))), (5, .int (nI p)), (7, .int (nI i)), (8, .int (nI (by4 f (p + 2)))), (10, .int (nI w))], [], M69)) rfl rfl rfl (fun c_249 => ?_) (fun c_249 => ?_)
                rotate_left
                · exact absurd (by decide) (of_decide_eq_false c_249)
                refine ps_st (S' := (263, [(0, .ref m0), (2, .int 4), (3, .int (nI x)), (4, .int (nI (by2 f p1))), (5, .int (nI p)), (6, .int (nI (so s3 w))), (7, .int (nI i)), (8, .int (nI (by4 f (p + 2)))), (11, .int (-1))], [.int (-1)], M69)) rfl rfl rfl ?_
                refine ps_if (S1 := (268, [(0, .ref m0), (2, .int 4), (3, .int (nI x)), (4, .int (nI (by2 f p1))), (5, .int (nI p)), (6, .int (nI (so s3 w))), (7, .int (nI i)), (8, .int (nI (by4 f (p + 2))))], [], M69)) (S2 := (266, [(0, .ref m0), (2, .int 4), (3, .int (nI x)), (4, .int (nI (by2 f p1))), (5, .int (nI p)), (6, .int (nI (so s3 w))), (7, .int (nI i)), (8, .int (nI (by4 f (p + 2)))), (11, .int (-1))], [], M69)) rfl rfl rfl (fun c_263 => ?_) (fun c_263 => ?_)
                · exact absurd (of_decide_eq_true c_263) (by decide)
                refine ps_st (S' := (267, [(0, .ref m0), (2, .int 4), (3, .int (nI x)), (4, .int (nI (by2 f p1))), (5, .int (nI p)), (6, .int (nI (so s3 w))), (7, .int (nI i)), (8, .int (nI (by4 f (p + 2)))), (11, .int (-1))], [.int (-1)], M69)) rfl rfl rfl ?_
                exact ps_ret rfl rfl (Or.inl ⟨e9146, I147, R148, by
                    rw [← hs9, clS_k (i := i) (p := p) (s := s2) hi0 h1 hsm (by omega) hws, if_neg (fun h9 => h9 q233_s), q233_b], rfl, hR149, hEI163, hER164, hi152, hi153⟩)
              · skip
                obtain ⟨I165, R166, q233_s, q233_b, rfl, hR167, hI168, hX169, hi170, hi171, hi172, hi173, hi174, hi175⟩ := q70
                have hi176 := (hI168 51 (by decide)).trans hi49
                have hi177 := (hI168 52 (by decide)).trans hi50
                have hi178 := (hI168 53 (by decide)).trans hi54
                have hi179 := (hI168 58 (by decide)).trans hi55
                have hi180 := (hI168 66 (by decide)).trans hi47
                have hF_181 := hF_63.mono (cIx hI168 (by decide)) (cRx hX169 (by decide))
                have hY_182 := hY_64.mono (cIx hI168 (by decide)) (cRx hX169 (by decide))
                have hP_183 := hP_65.mono (cIx hI168 (by decide)) (cRx hX169 (by decide))
                have hK_184 := hK_66.mono (cIx hI168 (by decide)) (cRx hX169 (by decide))
                have hEI185 := hEI67.tr hI168 (by decide)
                have hER186 := hER1.tr hX169 (by decide)
                show pl _ _ _ (236, [(0, .ref m0), (2, .int 4), (3, .int (nI x)), (4, .int (nI (by2 f p1))), (5, .int (nI p)), (6, .int (nI s3)), (7, .int (nI i)), (8, .int (nI (by4 f (p + 2)))), (10, .int (nI w))], [.int 0], M69) _
                refine ps_st (S' := (238, [(11, .int 0), (0, .ref m0), (2, .int 4), (3, .int (nI x)), (4, .int (nI (by2 f p1))), (5, .int (nI p)), (6, .int (nI s3)), (7, .int (nI i)), (8, .int (nI (by4 f (p + 2)))), (10, .int (nI w))], [], M69)) rfl rfl rfl ?_
                refine ps_st (S' := (240, [(11, .int 0), (0, .ref m0), (2, .int 4), (3, .int (nI x)), (4, .int (nI (by2 f p1))), (5, .int (nI p)), (6, .int (nI s3)), (7, .int (nI i)), (8, .int (nI (by4 f (p + 2)))), (10, .int (nI w))], [.int (nI s3)], M69)) rfl rfl rfl ?_
                refine ps_st (S' := (241, [(11, .int 0), (0, .ref m0), (2, .int 4), (3, .int (nI x)), (4, .int (nI (by2 f p1))), (5, .int (nI p)), (6, .int (nI s3)), (7, .int (nI i)), (8, .int (nI (by4 f (p + 2)))), (10, .int (nI w))], [.int 1, .int (nI s3)], M69)) rfl rfl rfl ?_
                refine ps_st (S' := (243, [(11, .int 0), (0, .ref m0), (2, .int 4), (3, .int (nI x)), (4, .int (nI (by2 f p1))), (5, .int (nI p)), (6, .int (nI s3)), (7, .int (nI i)), (8, .int (nI (by4 f (p + 2)))), (10, .int (nI w))], [.int (nI w), .int 1, .int (nI s3)], M69)) rfl rfl rfl ?_
                refine ps_st (S' := (244, [(11, .int 0), (0, .ref m0), (2, .int 4), (3, .int (nI x)), (4, .int (nI (by2 f p1))), (5, .int (nI p)), (6, .int (nI s3)), (7, .int (nI i)), (8, .int (nI (by4 f (p + 2)))), (10, .int (nI w))], [.int (1 <<< ((nI w) &&& 31)), .int (nI s3)], M69)) rfl rfl rfl ?_
                refine ps_st (S' := (245, [(11, .int 0), (0, .ref m0), (2, .int 4), (3, .int (nI x)), (4, .int (nI (by2 f p1))), (5, .int (nI p)), (6, .int (nI s3)), (7, .int (nI i)), (8, .int (nI (by4 f (p + 2)))), (10, .int (nI w))], [.int ((nI s3) ||| (1 <<< ((nI w) &&& 31)))], M69)) rfl rfl rfl ?_
                rw [or_k s3 w (by omega)]
                show pl _ _ _ (_, [(11, .int 0), (0, .ref m0), (2, .int 4), (3, .int (nI x)), (4, .int (nI (by2 f p1))), (5, .int (nI p)), (6, .int (nI s3)), (7, .int (nI i)), (8, .int (nI (by4 f (p + 2)))), (10, .int (nI w))], [.int (nI (so s3 w))], M69) _
                refine ps_st (S' := (247, [(6, .int (nI (so s3 w))), (11, .int 0), (0, .ref m0), (2, .int 4), (3, .int (nI x)), (4, .int (nI (by2 f p1))), (5, .int (nI p)), (7, .int (nI i)), (8, .int (nI (by4 f (p + 2)))), (10, .int (nI w))], [], M69)) rfl rfl rfl ?_
                refine ps_st (S' := (249, [(6, .int (nI (so s3 w))), (11, .int 0), (0, .ref m0), (2, .int 4), (3, .int (nI x)), (4, .int (nI (by2 f p1))), (5, .int (nI p)), (7, .int (nI i)), (8, .int (nI (by4 f (p + 2)))), (10, .int (nI w))], [.int 0], M69)) rfl rfl rfl ?_
                refine ps_if (S1 := (261, [(0, .ref m0), (2, .int 4), (3, .int (nI x)), (4, .int (nI (by2 f p1))), (5, .int (nI p)), (6, .int (nI (so s3 w))), (7, .int (nI i)), (8, .int (nI (by4 f (p + 2)))), (11, .int 0)], [], M69)) (S2 := (252, [(6, .int (nI (so s3 w))), (11, .int 0), (0, .ref m0), (2, .int 4), (3, .int (nI x)), (4, .int (nI (by2 f p1))), (5, .int (nI p)), (7, .int (nI i)), (8, .int (nI (by4 f (p + 2)))), (10, .int (nI w))], [], M69)) rfl rfl rfl (fun c_249 => ?_) (fun c_249 => ?_)
                rotate_left
                · exact absurd (by decide) (of_decide_eq_false c_249)
                refine ps_st (S' := (263, [(0, .ref m0), (2, .int 4), (3, .int (nI x)), (4, .int (nI (by2 f p1))), (5, .int (nI p)), (6, .int (nI (so s3 w))), (7, .int (nI i)), (8, .int (nI (by4 f (p + 2)))), (11, .int 0)], [.int 0], M69)) rfl rfl rfl ?_
                refine ps_if (S1 := (268, [(0, .ref m0), (2, .int 4), (3, .int (nI x)), (4, .int (nI (by2 f p1))), (5, .int (nI p)), (6, .int (nI (so s3 w))), (7, .int (nI i)), (8, .int (nI (by4 f (p + 2))))], [], M69)) (S2 := (266, [(0, .ref m0), (2, .int 4), (3, .int (nI x)), (4, .int (nI (by2 f p1))), (5, .int (nI p)), (6, .int (nI (so s3 w))), (7, .int (nI i)), (8, .int (nI (by4 f (p + 2)))), (11, .int 0)], [], M69)) rfl rfl rfl (fun c_263 => ?_) (fun c_263 => ?_)
                rotate_left
                · exact absurd (by decide) (of_decide_eq_false c_263)
                refine ps_st (S' := (270, [(0, .ref m0), (2, .int 4), (3, .int (nI x)), (4, .int (nI (by2 f p1))), (5, .int (nI p)), (6, .int (nI (so s3 w))), (7, .int (nI i)), (8, .int (nI (by4 f (p + 2))))], [.int (nI p)], M69)) rfl rfl rfl ?_
                refine ps_st (S' := (272, [(0, .ref m0), (2, .int 4), (3, .int (nI x)), (4, .int (nI (by2 f p1))), (5, .int (nI p)), (6, .int (nI (so s3 w))), (7, .int (nI i)), (8, .int (nI (by4 f (p + 2))))], [.int 6, .int (nI p)], M69)) rfl rfl rfl ?_
                refine ps_st (S' := (274, [(0, .ref m0), (2, .int 4), (3, .int (nI x)), (4, .int (nI (by2 f p1))), (5, .int (nI p)), (6, .int (nI (so s3 w))), (7, .int (nI i)), (8, .int (nI (by4 f (p + 2))))], [.int (nI (by4 f (p + 2))), .int 6, .int (nI p)], M69)) rfl rfl rfl ?_
                refine ps_st (S' := (275, [(0, .ref m0), (2, .int 4), (3, .int (nI x)), (4, .int (nI (by2 f p1))), (5, .int (nI p)), (6, .int (nI (so s3 w))), (7, .int (nI i)), (8, .int (nI (by4 f (p + 2))))], [.int (6 + (nI (by4 f (p + 2)))), .int (nI p)], M69)) rfl rfl rfl ?_
                rw [nI_add2 (p := 6) (k := by4 f (p + 2)) (x := 6) (y := (nI (by4 f (p + 2)))) rfl rfl (by omega)]
                show pl _ _ _ (_, [(0, .ref m0), (2, .int 4), (3, .int (nI x)), (4, .int (nI (by2 f p1))), (5, .int (nI p)), (6, .int (nI (so s3 w))), (7, .int (nI i)), (8, .int (nI (by4 f (p + 2))))], [.int (nI (6 + by4 f (p + 2))), .int (nI p)], M69) _
                refine ps_st (S' := (276, [(0, .ref m0), (2, .int 4), (3, .int (nI x)), (4, .int (nI (by2 f p1))), (5, .int (nI p)), (6, .int (nI (so s3 w))), (7, .int (nI i)), (8, .int (nI (by4 f (p + 2))))], [.int ((nI p) + (nI (6 + by4 f (p + 2))))], M69)) rfl rfl rfl ?_
                rw [nI_add1 (p := p) (k := 6 + by4 f (p + 2)) (x := (nI (6 + by4 f (p + 2)))) rfl (by omega)]
                rw [show nI (p + (6 + by4 f (p + 2))) = nI (p + 6 + by4 f (p + 2)) from congrArg nI (by omega)]
                show pl _ _ _ (_, [(0, .ref m0), (2, .int 4), (3, .int (nI x)), (4, .int (nI (by2 f p1))), (5, .int (nI p)), (6, .int (nI (so s3 w))), (7, .int (nI i)), (8, .int (nI (by4 f (p + 2))))], [.int (nI (p + 6 + by4 f (p + 2)))], M69) _
                refine ps_st (S' := (278, [(5, .int (nI (p + 6 + by4 f (p + 2)))), (0, .ref m0), (2, .int 4), (3, .int (nI x)), (4, .int (nI (by2 f p1))), (6, .int (nI (so s3 w))), (7, .int (nI i)), (8, .int (nI (by4 f (p + 2))))], [], M69)) rfl rfl rfl ?_
                refine ps_st (S' := (281, [(7, .int ((nI i) + 1)), (5, .int (nI (p + 6 + by4 f (p + 2)))), (0, .ref m0), (2, .int 4), (3, .int (nI x)), (4, .int (nI (by2 f p1))), (6, .int (nI (so s3 w))), (8, .int (nI (by4 f (p + 2))))], [], M69)) rfl rfl rfl ?_
                rw [nI_add1 (p := i) (k := 1) (x := 1) rfl (by omega)]
                show pl _ _ _ (_, [(7, .int (nI (i + 1))), (5, .int (nI (p + 6 + by4 f (p + 2)))), (0, .ref m0), (2, .int 4), (3, .int (nI x)), (4, .int (nI (by2 f p1))), (6, .int (nI (so s3 w))), (8, .int (nI (by4 f (p + 2))))], [], M69) _
                refine ps_st (S' := (18, [(0, .ref m0), (2, .int 4), (3, .int (nI x)), (4, .int (nI (by2 f p1))), (5, .int (nI (p + 6 + by4 f (p + 2)))), (6, .int (nI (so s3 w))), (7, .int (nI (i + 1)))], [], M69)) rfl rfl rfl ?_
                have h66 : I165 66 = some (nI (stU f (w + 1) p K).1) := by
                  rw [stU_k (show ¬ w + 1 = 0 by omega)]
                  exact hi180
                have h70 : I165 70 = some (b7 (stU f (w + 1) p K)) := by
                  rw [b7_st]
                  exact hi174
                exact ih.1 (i + 1) (p + 6 + by4 f (p + 2)) (so s2 (w + 1)) (so s3 w) (if w = 5 then by2 f (p + 6) else bc) (stU f (w + 1) p K) M69 I165 R166 hR167 hEI185 hER186 hi176 hi177 hi178 hi179 hi170 h66 hi171 hi172 hi173 h70 hi175 hF_181 hY_182 hP_183 hK_184 (by omega) (so_lt hl (by omega)) (fun w9 a9 b9 => (by have h9 := hb w9 a9 b9; rw [sb_so, sb_so, h9]; by_cases h8 : w9 = w; rw [if_pos h8, if_pos (by omega)]; rw [if_neg h8, if_neg (by omega)])) (hq7) (by
                    rw [← hs9, clS_k (i := i) (p := p) (s := s2) hi0 h1 hsm (by omega) hws, if_neg (show ¬ ¬ s_fe f (w + 1) (p + 6) (p + 6 + by4 f (p + 2)) = some (p + 6 + by4 f (p + 2)) from fun h9 => h9 q233_s), q233_b]) (by
                    rw [← hu, clU_st (i := i) hi0, hsm]) (by
                    rw [stU_k (show ¬ w + 1 = 0 by omega)]
                    omega)
            · have c_198 : ¬ (¬ (nI (sb s3 w)) = 1) := of_decide_eq_false c_198
              have n_198 : sb s3 w = 1 := (eq_nI (p := sb s3 w) (n := 1) (Nat.lt_trans (sb_lt _ _) (by decide)) (by decide)).mp (Decidable.not_not.mp c_198)
              refine ps_st (S' := (202, [(0, .ref m0), (2, .int 4), (3, .int (nI x)), (4, .int (nI (by2 f p1))), (5, .int (nI p)), (6, .int (nI s3)), (7, .int (nI i)), (8, .int (nI (by4 f (p + 2)))), (10, .int (nI w))], [.ref m0], M44)) rfl rfl rfl ?_
              refine ps_st (S' := (204, [(0, .ref m0), (2, .int 4), (3, .int (nI x)), (4, .int (nI (by2 f p1))), (5, .int (nI p)), (6, .int (nI s3)), (7, .int (nI i)), (8, .int (nI (by4 f (p + 2)))), (10, .int (nI w))], [.int 29, .ref m0], M44)) rfl rfl rfl ?_
              refine ps_st (S' := (206, [(0, .ref m0), (2, .int 4), (3, .int (nI x)), (4, .int (nI (by2 f p1))), (5, .int (nI p)), (6, .int (nI s3)), (7, .int (nI i)), (8, .int (nI (by4 f (p + 2)))), (10, .int (nI w))], [.int (nI p), .int 29, .ref m0], M44)) rfl rfl rfl ?_
              refine pl_call (a := [.ref m0, .int 29, .int (nI p)]) (rest := []) rfl rfl rfl (rd_wrong (x1 := 29) (x2 := (nI p)) hR46) (fun v187 M188 q189 => ?_)
              obtain ⟨I190, R191, rfl, hR192, hI193, hX194, hi195, hi196⟩ := q189
              have hi197 := (hI193 51 (by decide)).trans hi49
              have hi198 := (hI193 52 (by decide)).trans hi50
              have hi199 := (hI193 53 (by decide)).trans hi54
              have hi200 := (hI193 58 (by decide)).trans hi55
              have hi201 := (hI193 71 (by decide)).trans hi56
              have hi202 := (hI193 65 (by decide)).trans hi57
              have hi203 := (hI193 68 (by decide)).trans hi59
              have hi204 := (hI193 69 (by decide)).trans hi60
              have hi205 := (hI193 70 (by decide)).trans hi61
              have hi206 := (hI193 72 (by decide)).trans hi62
              have hi207 := (hI193 66 (by decide)).trans hi47
              have hF_208 := hF_63.mono (cIx hI193 (by decide)) (cRx hX194 (by decide))
              have hY_209 := hY_64.mono (cIx hI193 (by decide)) (cRx hX194 (by decide))
              have hP_210 := hP_65.mono (cIx hI193 (by decide)) (cRx hX194 (by decide))
              have hK_211 := hK_66.mono (cIx hI193 (by decide)) (cRx hX194 (by decide))
              have hEI212 := hEI67.tr hI193 (by decide)
              have hER213 := hER1.tr hX194 (by decide)
              show pl _ _ _ (209, [(0, .ref m0), (2, .int 4), (3, .int (nI x)), (4, .int (nI (by2 f p1))), (5, .int (nI p)), (6, .int (nI s3)), (7, .int (nI i)), (8, .int (nI (by4 f (p + 2)))), (10, .int (nI w))], [.int 0], M188) _
              refine ps_st (S' := (210, [(0, .ref m0), (2, .int 4), (3, .int (nI x)), (4, .int (nI (by2 f p1))), (5, .int (nI p)), (6, .int (nI s3)), (7, .int (nI i)), (8, .int (nI (by4 f (p + 2)))), (10, .int (nI w))], [], M188)) rfl rfl rfl ?_
              refine ps_st (S' := (211, [(0, .ref m0), (2, .int 4), (3, .int (nI x)), (4, .int (nI (by2 f p1))), (5, .int (nI p)), (6, .int (nI s3)), (7, .int (nI i)), (8, .int (nI (by4 f (p + 2)))), (10, .int (nI w))], [.int (-1)], M188)) rfl rfl rfl ?_
              exact ps_ret rfl rfl (Or.inl ⟨(29, p), I190, R191, by
                  rw [← hs9, clS_29 (i := i) (p := p) (s := s2) hi0 h1 hsm hw2.1 (by omega)], rfl, hR192, hEI212, hER213, hi195, hi196⟩)
        · have c_86 : ¬ ((nI 10) ≤ (nI k)) := of_decide_eq_false c_86
          have n_86 : ¬ (10 ≤ k) := fun h9 => c_86 ((le_nI (p := 10) (n := k) (by decide) (by omega)).mpr h9)
          refine ps_st (S' := (90, [(0, .ref m0), (2, .int 4), (3, .int (nI x)), (4, .int (nI (by2 f p1))), (5, .int (nI p)), (6, .int (nI s3)), (7, .int (nI i)), (8, .int (nI (by4 f (p + 2)))), (9, .int (nI t)), (10, .int (gI (kb mj 4 (tX f n E (by2 f p)) k))), (11, .int (nI k))], [.ref m0], M1)) rfl rfl rfl ?_
          refine pr_ref (j := 63) (S' := (93, [(0, .ref m0), (2, .int 4), (3, .int (nI x)), (4, .int (nI (by2 f p1))), (5, .int (nI p)), (6, .int (nI s3)), (7, .int (nI i)), (8, .int (nI (by4 f (p + 2)))), (9, .int (nI t)), (10, .int (gI (kb mj 4 (tX f n E (by2 f p)) k))), (11, .int (nI k))], [.ref (q 63)], M1)) rfl hR1 rfl rfl ?_
          refine ps_st (S' := (95, [(0, .ref m0), (2, .int 4), (3, .int (nI x)), (4, .int (nI (by2 f p1))), (5, .int (nI p)), (6, .int (nI s3)), (7, .int (nI i)), (8, .int (nI (by4 f (p + 2)))), (9, .int (nI t)), (10, .int (gI (kb mj 4 (tX f n E (by2 f p)) k))), (11, .int (nI k))], [.int (nI k), .ref (q 63)], M1)) rfl rfl rfl ?_
          have hki_95 := kiN_lt k
          refine pr_ld (a := 63) (j := k) (y := (nI (kiN k))) (S' := (96, [(0, .ref m0), (2, .int 4), (3, .int (nI x)), (4, .int (nI (by2 f p1))), (5, .int (nI p)), (6, .int (nI s3)), (7, .int (nI i)), (8, .int (nI (by4 f (p + 2)))), (9, .int (nI t)), (10, .int (gI (kb mj 4 (tX f n E (by2 f p)) k))), (11, .int (nI k))], [.int (nI (kiN k))], M1)) rfl hR1 rfl (by omega) (fun _ => (hK1 k (by omega)).1) rfl (fun i1_95 => ?_)
          refine ps_st (S' := (97, [(0, .ref m0), (2, .int 4), (3, .int (nI x)), (4, .int (nI (by2 f p1))), (5, .int (nI p)), (6, .int (nI s3)), (7, .int (nI i)), (8, .int (nI (by4 f (p + 2)))), (9, .int (nI t)), (10, .int (gI (kb mj 4 (tX f n E (by2 f p)) k))), (11, .int (nI k))], [.int 4, .int (nI (kiN k))], M1)) rfl rfl rfl ?_
          refine ps_if2 (S1 := (134, [(0, .ref m0), (2, .int 4), (3, .int (nI x)), (4, .int (nI (by2 f p1))), (5, .int (nI p)), (6, .int (nI s3)), (7, .int (nI i)), (8, .int (nI (by4 f (p + 2)))), (9, .int (nI t)), (10, .int (gI (kb mj 4 (tX f n E (by2 f p)) k))), (11, .int (nI k))], [], M1)) (S2 := (100, [(0, .ref m0), (2, .int 4), (3, .int (nI x)), (4, .int (nI (by2 f p1))), (5, .int (nI p)), (6, .int (nI s3)), (7, .int (nI i)), (8, .int (nI (by4 f (p + 2)))), (9, .int (nI t)), (10, .int (gI (kb mj 4 (tX f n E (by2 f p)) k))), (11, .int (nI k))], [], M1)) rfl rfl rfl (fun c_97 => ?_) (fun c_97 => ?_)
          · have c_97 : ¬ (nI (kiN k)) = 4 := of_decide_eq_true c_97
            have n_97 : ¬ (kiN k = 4) := fun h9 => c_97 ((eq_nI (p := kiN k) (n := 4) (Nat.lt_trans (kiN_lt _) (by decide)) (by decide)).mpr h9)
            refine ps_st (S' := (137, [(11, .int ((nI k) + 1)), (0, .ref m0), (2, .int 4), (3, .int (nI x)), (4, .int (nI (by2 f p1))), (5, .int (nI p)), (6, .int (nI s3)), (7, .int (nI i)), (8, .int (nI (by4 f (p + 2)))), (9, .int (nI t)), (10, .int (gI (kb mj 4 (tX f n E (by2 f p)) k)))], [], M1)) rfl rfl rfl ?_
            rw [nI_add1 (p := k) (k := 1) (x := 1) rfl (by omega)]
            show pl _ _ _ (_, [(11, .int (nI (k + 1))), (0, .ref m0), (2, .int 4), (3, .int (nI x)), (4, .int (nI (by2 f p1))), (5, .int (nI p)), (6, .int (nI s3)), (7, .int (nI i)), (8, .int (nI (by4 f (p + 2)))), (9, .int (nI t)), (10, .int (gI (kb mj 4 (tX f n E (by2 f p)) k)))], [], M1) _
            refine ps_st (S' := (79, [(0, .ref m0), (2, .int 4), (3, .int (nI x)), (4, .int (nI (by2 f p1))), (5, .int (nI p)), (6, .int (nI s3)), (7, .int (nI i)), (8, .int (nI (by4 f (p + 2)))), (9, .int (nI t)), (10, .int (gI (kb mj 4 (tX f n E (by2 f p)) k))), (11, .int (nI (k + 1)))], [], M1)) rfl rfl rfl ?_
            have hkb : (gI (kb mj 4 (tX f n E (by2 f p)) k)) = gI (kb mj 4 (tX f n E (by2 f p)) (k + 1)) := by
              conv => rhs; unfold kb
              rw [if_neg (by omega)]
            rw [hkb]
            exact ih.2 (i) (p) (s2) (s3) (k + 1) (t) (bc) (K) M1 I1 R1 hR1 hEI1 hER1 hl51 hl52 hl53 hl58 hl71 hl66 hl65 hl68 hl69 hl70 hl72 hF1 hY1 hP1 hK1 (hi0) (hl) (hb) (ha) (hs9) (hu) (hkn) (by omega) (h1) (hsy)
          · have c_97 : ¬ (¬ (nI (kiN k)) = 4) := of_decide_eq_false c_97
            have n_97 : kiN k = 4 := (eq_nI (p := kiN k) (n := 4) (Nat.lt_trans (kiN_lt _) (by decide)) (by decide)).mp (Decidable.not_not.mp c_97)
            refine ps_st (S' := (101, [(0, .ref m0), (2, .int 4), (3, .int (nI x)), (4, .int (nI (by2 f p1))), (5, .int (nI p)), (6, .int (nI s3)), (7, .int (nI i)), (8, .int (nI (by4 f (p + 2)))), (9, .int (nI t)), (10, .int (gI (kb mj 4 (tX f n E (by2 f p)) k))), (11, .int (nI k))], [.ref m0], M1)) rfl rfl rfl ?_
            refine pr_int (j := 53) (S' := (104, [(0, .ref m0), (2, .int 4), (3, .int (nI x)), (4, .int (nI (by2 f p1))), (5, .int (nI p)), (6, .int (nI s3)), (7, .int (nI i)), (8, .int (nI (by4 f (p + 2)))), (9, .int (nI t)), (10, .int (gI (kb mj 4 (tX f n E (by2 f p)) k))), (11, .int (nI k))], [.int (nI mj)], M1)) rfl hR1 rfl hl53 rfl ?_
            refine ps_st (S' := (105, [(0, .ref m0), (2, .int 4), (3, .int (nI x)), (4, .int (nI (by2 f p1))), (5, .int (nI p)), (6, .int (nI s3)), (7, .int (nI i)), (8, .int (nI (by4 f (p + 2)))), (9, .int (nI t)), (10, .int (gI (kb mj 4 (tX f n E (by2 f p)) k))), (11, .int (nI k))], [.ref m0, .int (nI mj)], M1)) rfl rfl rfl ?_
            refine pr_ref (j := 64) (S' := (108, [(0, .ref m0), (2, .int 4), (3, .int (nI x)), (4, .int (nI (by2 f p1))), (5, .int (nI p)), (6, .int (nI s3)), (7, .int (nI i)), (8, .int (nI (by4 f (p + 2)))), (9, .int (nI t)), (10, .int (gI (kb mj 4 (tX f n E (by2 f p)) k))), (11, .int (nI k))], [.ref (q 64), .int (nI mj)], M1)) rfl hR1 rfl rfl ?_
            refine ps_st (S' := (110, [(0, .ref m0), (2, .int 4), (3, .int (nI x)), (4, .int (nI (by2 f p1))), (5, .int (nI p)), (6, .int (nI s3)), (7, .int (nI i)), (8, .int (nI (by4 f (p + 2)))), (9, .int (nI t)), (10, .int (gI (kb mj 4 (tX f n E (by2 f p)) k))), (11, .int (nI k))], [.int (nI k), .ref (q 64), .int (nI mj)], M1)) rfl rfl rfl ?_
            have hkf_110 := kfN_lt k
            refine pr_ld (a := 64) (j := k) (y := (nI (kfN k))) (S' := (111, [(0, .ref m0), (2, .int 4), (3, .int (nI x)), (4, .int (nI (by2 f p1))), (5, .int (nI p)), (6, .int (nI s3)), (7, .int (nI i)), (8, .int (nI (by4 f (p + 2)))), (9, .int (nI t)), (10, .int (gI (kb mj 4 (tX f n E (by2 f p)) k))), (11, .int (nI k))], [.int (nI (kfN k)), .int (nI mj)], M1)) rfl hR1 rfl (by omega) (fun _ => (hK1 k (by omega)).2) rfl (fun i1_110 => ?_)
            refine ps_if2 (S1 := (134, [(0, .ref m0), (2, .int 4), (3, .int (nI x)), (4, .int (nI (by2 f p1))), (5, .int (nI p)), (6, .int (nI s3)), (7, .int (nI i)), (8, .int (nI (by4 f (p + 2)))), (9, .int (nI t)), (10, .int (gI (kb mj 4 (tX f n E (by2 f p)) k))), (11, .int (nI k))], [], M1)) (S2 := (114, [(0, .ref m0), (2, .int 4), (3, .int (nI x)), (4, .int (nI (by2 f p1))), (5, .int (nI p)), (6, .int (nI s3)), (7, .int (nI i)), (8, .int (nI (by4 f (p + 2)))), (9, .int (nI t)), (10, .int (gI (kb mj 4 (tX f n E (by2 f p)) k))), (11, .int (nI k))], [], M1)) rfl rfl rfl (fun c_111 => ?_) (fun c_111 => ?_)
            · have c_111 : (nI mj) < (nI (kfN k)) := of_decide_eq_true c_111
              have n_111 : mj < kfN k := (lt_nI (p := mj) (n := kfN k) (by omega) (Nat.lt_trans (kfN_lt _) (by decide))).mp c_111
              refine ps_st (S' := (137, [(11, .int ((nI k) + 1)), (0, .ref m0), (2, .int 4), (3, .int (nI x)), (4, .int (nI (by2 f p1))), (5, .int (nI p)), (6, .int (nI s3)), (7, .int (nI i)), (8, .int (nI (by4 f (p + 2)))), (9, .int (nI t)), (10, .int (gI (kb mj 4 (tX f n E (by2 f p)) k)))], [], M1)) rfl rfl rfl ?_
              rw [nI_add1 (p := k) (k := 1) (x := 1) rfl (by omega)]
              show pl _ _ _ (_, [(11, .int (nI (k + 1))), (0, .ref m0), (2, .int 4), (3, .int (nI x)), (4, .int (nI (by2 f p1))), (5, .int (nI p)), (6, .int (nI s3)), (7, .int (nI i)), (8, .int (nI (by4 f (p + 2)))), (9, .int (nI t)), (10, .int (gI (kb mj 4 (tX f n E (by2 f p)) k)))], [], M1) _
              refine ps_st (S' := (79, [(0, .ref m0), (2, .int 4), (3, .int (nI x)), (4, .int (nI (by2 f p1))), (5, .int (nI p)), (6, .int (nI s3)), (7, .int (nI i)), (8, .int (nI (by4 f (p + 2)))), (9, .int (nI t)), (10, .int (gI (kb mj 4 (tX f n E (by2 f p)) k))), (11, .int (nI (k + 1)))], [], M1)) rfl rfl rfl ?_
              have hkb : (gI (kb mj 4 (tX f n E (by2 f p)) k)) = gI (kb mj 4 (tX f n E (by2 f p)) (k + 1)) := by
                conv => rhs; unfold kb
                rw [if_neg (by omega)]
              rw [hkb]
              exact ih.2 (i) (p) (s2) (s3) (k + 1) (t) (bc) (K) M1 I1 R1 hR1 hEI1 hER1 hl51 hl52 hl53 hl58 hl71 hl66 hl65 hl68 hl69 hl70 hl72 hF1 hY1 hP1 hK1 (hi0) (hl) (hb) (ha) (hs9) (hu) (hkn) (by omega) (h1) (hsy)
            · have c_111 : ¬ ((nI mj) < (nI (kfN k))) := of_decide_eq_false c_111
              have n_111 : ¬ (mj < kfN k) := fun h9 => c_111 ((lt_nI (p := mj) (n := kfN k) (by omega) (Nat.lt_trans (kfN_lt _) (by decide))).mpr h9)
              refine ps_st (S' := (115, [(0, .ref m0), (2, .int 4), (3, .int (nI x)), (4, .int (nI (by2 f p1))), (5, .int (nI p)), (6, .int (nI s3)), (7, .int (nI i)), (8, .int (nI (by4 f (p + 2)))), (9, .int (nI t)), (10, .int (gI (kb mj 4 (tX f n E (by2 f p)) k))), (11, .int (nI k))], [.ref m0], M1)) rfl rfl rfl ?_
              refine ps_st (S' := (117, [(0, .ref m0), (2, .int 4), (3, .int (nI x)), (4, .int (nI (by2 f p1))), (5, .int (nI p)), (6, .int (nI s3)), (7, .int (nI i)), (8, .int (nI (by4 f (p + 2)))), (9, .int (nI t)), (10, .int (gI (kb mj 4 (tX f n E (by2 f p)) k))), (11, .int (nI k))], [.int (nI t), .ref m0], M1)) rfl rfl rfl ?_
              refine ps_st (S' := (118, [(0, .ref m0), (2, .int 4), (3, .int (nI x)), (4, .int (nI (by2 f p1))), (5, .int (nI p)), (6, .int (nI s3)), (7, .int (nI i)), (8, .int (nI (by4 f (p + 2)))), (9, .int (nI t)), (10, .int (gI (kb mj 4 (tX f n E (by2 f p)) k))), (11, .int (nI k))], [.ref m0, .int (nI t), .ref m0], M1)) rfl rfl rfl ?_
              refine pr_ref (j := 62) (S' := (121, [(0, .ref m0), (2, .int 4), (3, .int (nI x)), (4, .int (nI (by2 f p1))), (5, .int (nI p)), (6, .int (nI s3)), (7, .int (nI i)), (8, .int (nI (by4 f (p + 2)))), (9, .int (nI t)), (10, .int (gI (kb mj 4 (tX f n E (by2 f p)) k))), (11, .int (nI k))], [.ref (q 62), .int (nI t), .ref m0], M1)) rfl hR1 rfl rfl ?_
              refine ps_st (S' := (123, [(0, .ref m0), (2, .int 4), (3, .int (nI x)), (4, .int (nI (by2 f p1))), (5, .int (nI p)), (6, .int (nI s3)), (7, .int (nI i)), (8, .int (nI (by4 f (p + 2)))), (9, .int (nI t)), (10, .int (gI (kb mj 4 (tX f n E (by2 f p)) k))), (11, .int (nI k))], [.int (nI k), .ref (q 62), .int (nI t), .ref m0], M1)) rfl rfl rfl ?_
              refine pr_kn (j := k) (S' := (124, [(0, .ref m0), (2, .int 4), (3, .int (nI x)), (4, .int (nI (by2 f p1))), (5, .int (nI p)), (6, .int (nI s3)), (7, .int (nI i)), (8, .int (nI (by4 f (p + 2)))), (9, .int (nI t)), (10, .int (gI (kb mj 4 (tX f n E (by2 f p)) k))), (11, .int (nI k))], [.ref (g.2.1 (15 + k)), .int (nI t), .ref m0], M1)) rfl hR1 (by omega) rfl ?_
              refine pl_call (a := [.ref m0, .int (nI t), .ref (g.2.1 (15 + k))]) (rest := []) rfl rfl rfl (rd_is (tx := tx) (cN := cN) (A := A) (s := t) (l := (tX f n E (by2 f p))) (lk := (15 + k)) hR1 hY1 (hsy) (⟨by omega, by omega⟩)) (fun v214 M215 q216 => ?_)
              obtain ⟨rfl, rfl⟩ := q216
              show pl _ _ _ (127, [(0, .ref m0), (2, .int 4), (3, .int (nI x)), (4, .int (nI (by2 f p1))), (5, .int (nI p)), (6, .int (nI s3)), (7, .int (nI i)), (8, .int (nI (by4 f (p + 2)))), (9, .int (nI t)), (10, .int (gI (kb mj 4 (tX f n E (by2 f p)) k))), (11, .int (nI k))], [.int (nI (eqN (tX f n E (by2 f p)) (ltx (15 + k))))], M1) _
              refine ps_if (S1 := (134, [(0, .ref m0), (2, .int 4), (3, .int (nI x)), (4, .int (nI (by2 f p1))), (5, .int (nI p)), (6, .int (nI s3)), (7, .int (nI i)), (8, .int (nI (by4 f (p + 2)))), (9, .int (nI t)), (10, .int (gI (kb mj 4 (tX f n E (by2 f p)) k))), (11, .int (nI k))], [], M1)) (S2 := (130, [(0, .ref m0), (2, .int 4), (3, .int (nI x)), (4, .int (nI (by2 f p1))), (5, .int (nI p)), (6, .int (nI s3)), (7, .int (nI i)), (8, .int (nI (by4 f (p + 2)))), (9, .int (nI t)), (10, .int (gI (kb mj 4 (tX f n E (by2 f p)) k))), (11, .int (nI k))], [], M1)) rfl rfl rfl (fun c_127 => ?_) (fun c_127 => ?_)
              · have c_127 : (nI (eqN (tX f n E (by2 f p)) (ltx (15 + k)))) = 0 := of_decide_eq_true c_127
                have n_127 : eqN (tX f n E (by2 f p)) (ltx (15 + k)) = 0 := (eq_nI (p := eqN (tX f n E (by2 f p)) (ltx (15 + k))) (n := 0) (Nat.lt_trans (le1_eq _ _) (by decide)) (by decide)).mp c_127
                refine ps_st (S' := (137, [(11, .int ((nI k) + 1)), (0, .ref m0), (2, .int 4), (3, .int (nI x)), (4, .int (nI (by2 f p1))), (5, .int (nI p)), (6, .int (nI s3)), (7, .int (nI i)), (8, .int (nI (by4 f (p + 2)))), (9, .int (nI t)), (10, .int (gI (kb mj 4 (tX f n E (by2 f p)) k)))], [], M1)) rfl rfl rfl ?_
                rw [nI_add1 (p := k) (k := 1) (x := 1) rfl (by omega)]
                show pl _ _ _ (_, [(11, .int (nI (k + 1))), (0, .ref m0), (2, .int 4), (3, .int (nI x)), (4, .int (nI (by2 f p1))), (5, .int (nI p)), (6, .int (nI s3)), (7, .int (nI i)), (8, .int (nI (by4 f (p + 2)))), (9, .int (nI t)), (10, .int (gI (kb mj 4 (tX f n E (by2 f p)) k)))], [], M1) _
                refine ps_st (S' := (79, [(0, .ref m0), (2, .int 4), (3, .int (nI x)), (4, .int (nI (by2 f p1))), (5, .int (nI p)), (6, .int (nI s3)), (7, .int (nI i)), (8, .int (nI (by4 f (p + 2)))), (9, .int (nI t)), (10, .int (gI (kb mj 4 (tX f n E (by2 f p)) k))), (11, .int (nI (k + 1)))], [], M1)) rfl rfl rfl ?_
                have hkb : (gI (kb mj 4 (tX f n E (by2 f p)) k)) = gI (kb mj 4 (tX f n E (by2 f p)) (k + 1)) := by
                  conv => rhs; unfold kb
                  rw [if_neg (by omega)]
                rw [hkb]
                exact ih.2 (i) (p) (s2) (s3) (k + 1) (t) (bc) (K) M1 I1 R1 hR1 hEI1 hER1 hl51 hl52 hl53 hl58 hl71 hl66 hl65 hl68 hl69 hl70 hl72 hF1 hY1 hP1 hK1 (hi0) (hl) (hb) (ha) (hs9) (hu) (hkn) (by omega) (h1) (hsy)
              · have c_127 : ¬ ((nI (eqN (tX f n E (by2 f p)) (ltx (15 + k)))) = 0) := of_decide_eq_false c_127
                have n_127 : ¬ (eqN (tX f n E (by2 f p)) (ltx (15 + k)) = 0) := fun h9 => c_127 ((eq_nI (p := eqN (tX f n E (by2 f p)) (ltx (15 + k))) (n := 0) (Nat.lt_trans (le1_eq _ _) (by decide)) (by decide)).mpr h9)
                refine ps_st (S' := (132, [(0, .ref m0), (2, .int 4), (3, .int (nI x)), (4, .int (nI (by2 f p1))), (5, .int (nI p)), (6, .int (nI s3)), (7, .int (nI i)), (8, .int (nI (by4 f (p + 2)))), (9, .int (nI t)), (10, .int (gI (kb mj 4 (tX f n E (by2 f p)) k))), (11, .int (nI k))], [.int (nI k)], M1)) rfl rfl rfl ?_
                refine ps_st (S' := (134, [(0, .ref m0), (2, .int 4), (3, .int (nI x)), (4, .int (nI (by2 f p1))), (5, .int (nI p)), (6, .int (nI s3)), (7, .int (nI i)), (8, .int (nI (by4 f (p + 2)))), (9, .int (nI t)), (10, .int (nI k)), (11, .int (nI k))], [], M1)) rfl rfl rfl ?_
                refine ps_st (S' := (137, [(11, .int ((nI k) + 1)), (0, .ref m0), (2, .int 4), (3, .int (nI x)), (4, .int (nI (by2 f p1))), (5, .int (nI p)), (6, .int (nI s3)), (7, .int (nI i)), (8, .int (nI (by4 f (p + 2)))), (9, .int (nI t)), (10, .int (nI k))], [], M1)) rfl rfl rfl ?_
                rw [nI_add1 (p := k) (k := 1) (x := 1) rfl (by omega)]
                show pl _ _ _ (_, [(11, .int (nI (k + 1))), (0, .ref m0), (2, .int 4), (3, .int (nI x)), (4, .int (nI (by2 f p1))), (5, .int (nI p)), (6, .int (nI s3)), (7, .int (nI i)), (8, .int (nI (by4 f (p + 2)))), (9, .int (nI t)), (10, .int (nI k))], [], M1) _
                refine ps_st (S' := (79, [(0, .ref m0), (2, .int 4), (3, .int (nI x)), (4, .int (nI (by2 f p1))), (5, .int (nI p)), (6, .int (nI s3)), (7, .int (nI i)), (8, .int (nI (by4 f (p + 2)))), (9, .int (nI t)), (10, .int (nI k)), (11, .int (nI (k + 1)))], [], M1)) rfl rfl rfl ?_
                have hkb : (nI k) = gI (kb mj 4 (tX f n E (by2 f p)) (k + 1)) := by
                  conv => rhs; unfold kb
                  rw [if_pos ⟨by omega, by omega, by omega⟩]
                  rfl
                rw [hkb]
                exact ih.2 (i) (p) (s2) (s3) (k + 1) (t) (bc) (K) M1 I1 R1 hR1 hEI1 hER1 hl51 hl52 hl53 hl58 hl71 hl66 hl65 hl68 hl69 hl70 hl72 hF1 hY1 hP1 hK1 (hi0) (hl) (hb) (ha) (hs9) (hu) (hkn) (by omega) (h1) (hsy)
  refine ps_st (S' := (1, [(0, .ref m0), (1, .int (nI p1)), (2, .int 4), (3, .int (nI x))], [.ref m0], M)) rfl rfl rfl ?_
  refine ps_st (S' := (2, [(0, .ref m0), (1, .int (nI p1)), (2, .int 4), (3, .int (nI x))], [.int (nI p1), .ref m0], M)) rfl rfl rfl ?_
  refine pl_call (a := [.ref m0, .int (nI p1)]) (rest := []) rfl rfl rfl (rd_u2 (n := n) (f := f) (p := p1) hR hF (by omega)) (fun v217 M218 q219 => ?_)
  obtain ⟨rfl, rfl⟩ := q219
  show pl _ _ _ (5, [(0, .ref m0), (1, .int (nI p1)), (2, .int 4), (3, .int (nI x))], [.int (nI (by2 f p1))], M) _
  have hu_2 := by2_lt f p1
  refine ps_st (S' := (7, [(4, .int (nI (by2 f p1))), (0, .ref m0), (1, .int (nI p1)), (2, .int 4), (3, .int (nI x))], [], M)) rfl rfl rfl ?_
  refine ps_st (S' := (8, [(4, .int (nI (by2 f p1))), (0, .ref m0), (1, .int (nI p1)), (2, .int 4), (3, .int (nI x))], [.int (nI p1)], M)) rfl rfl rfl ?_
  refine ps_st (S' := (9, [(4, .int (nI (by2 f p1))), (0, .ref m0), (1, .int (nI p1)), (2, .int 4), (3, .int (nI x))], [.int 2, .int (nI p1)], M)) rfl rfl rfl ?_
  refine ps_st (S' := (10, [(4, .int (nI (by2 f p1))), (0, .ref m0), (1, .int (nI p1)), (2, .int 4), (3, .int (nI x))], [.int ((nI p1) + 2)], M)) rfl rfl rfl ?_
  rw [nI_add1 (p := p1) (k := 2) (x := 2) rfl (by omega)]
  show pl _ _ _ (_, [(4, .int (nI (by2 f p1))), (0, .ref m0), (1, .int (nI p1)), (2, .int 4), (3, .int (nI x))], [.int (nI (p1 + 2))], M) _
  refine ps_st (S' := (12, [(5, .int (nI (p1 + 2))), (4, .int (nI (by2 f p1))), (0, .ref m0), (1, .int (nI p1)), (2, .int 4), (3, .int (nI x))], [], M)) rfl rfl rfl ?_
  refine ps_st (S' := (13, [(5, .int (nI (p1 + 2))), (4, .int (nI (by2 f p1))), (0, .ref m0), (1, .int (nI p1)), (2, .int 4), (3, .int (nI x))], [.int 0], M)) rfl rfl rfl ?_
  refine ps_st (S' := (15, [(6, .int 0), (5, .int (nI (p1 + 2))), (4, .int (nI (by2 f p1))), (0, .ref m0), (1, .int (nI p1)), (2, .int 4), (3, .int (nI x))], [], M)) rfl rfl rfl ?_
  refine ps_st (S' := (16, [(6, .int 0), (5, .int (nI (p1 + 2))), (4, .int (nI (by2 f p1))), (0, .ref m0), (1, .int (nI p1)), (2, .int 4), (3, .int (nI x))], [.int 0], M)) rfl rfl rfl ?_
  refine ps_st (S' := (18, [(0, .ref m0), (2, .int 4), (3, .int (nI x)), (4, .int (nI (by2 f p1))), (5, .int (nI (p1 + 2))), (6, .int 0), (7, .int 0)], [], M)) rfl rfl rfl ?_
  exact (LL kf).1 (0) (p1 + 2) (0) (0) (0) ((0, 0, 0, 0, 0, -1)) M I R hR hEI hER hi51 hi52 hi53 hi58 hi71 hi66 hi65 hi68 hi69 hi70 hi72 hF hY hP hK (by omega) (by decide) (fun w _ _ => by rw [sb_0, sb_0]) (hat) (rfl) (rfl) (Nat.le_refl _)
end
section
/-! a method's attributes, as the reference checks them (laid by wip/p4/e16.py) -/
def CX (h x : Nat) (I : rI) (R : rR) : Prop := if h = 0 then R 37 x = some (-1) else ∃ c, c < 70000 ∧ R 37 x = some (nI c)
theorem CX.mono {h x : Nat} {I I' : rI} {R R' : rR} (hc : CX h x I R) (hI : ∀ k, k ∈ ([] : List Nat) → I' k = I k) (hR : ∀ k, k ∈ [37] → R' k = R k) : CX h x I' R' := by
  unfold CX
  rw [hR 37 (by decide)]
  exact hc
section MAS
variable {f : Nat → Int32} {n : Nat} {E : List (Nat × Nat)} {mj wa c i p s h w : Nat}
variable (f n E mj wa) in
/-- what a method's attribute of the reference's number w (1: code, 2: exceptions) at p says -/
def mbS (w p : Nat) : (Nat × Nat) ⊕ Nat := if w = 1 then cdS f n E mj wa p 0 else if clA f E (p + 6 + 2) (by2 f (p + 6)) 0 = 0 then .inl (32, p) else .inr 0
theorem caS_any : ∀ {r p s s0 : Nat}, sb s 4 = sb s0 4 → (∀ e, caS f n E mj r p s0 = .inl e → caS f n E mj r p s = .inl e) ∧ (∀ s1, caS f n E mj r p s0 = .inr s1 → ∃ s', caS f n E mj r p s = .inr s' ∧ ∀ j, ¬ j = 4 → sb s' j = sb s j) := by
  intro r
  induction r with
  | zero =>
    intro p s s0 _
    exact ⟨fun e h9 => (by cases h9), fun s1 _ => ⟨s, rfl, fun _ _ => rfl⟩⟩
  | succ r ih =>
    intro p s s0 hs
    have hk : smN4 f n E mj (by2 f p) = 0 ∨ smN4 f n E mj (by2 f p) = 4 := by
      unfold smN4
      split
      · exact Or.inr rfl
      · exact Or.inl rfl
    unfold caS
    by_cases ht : ¬ tg f E (by2 f p) = 1
    · have e1 : ∀ s k, nwS f E s k p = .inl (28, p) := fun s k => by unfold nwS; rw [if_pos ht]
      rw [e1, e1]
      exact ⟨fun e h9 => h9, fun s1 h9 => (by cases h9)⟩
    · rcases hk with hk | hk
      · have e1 : ∀ s, nwS f E s 0 p = .inr s := fun s => by unfold nwS; rw [if_neg ht, if_pos rfl]
        rw [hk, e1, e1]
        exact ih hs
      · by_cases h4 : ¬ sb s 4 = 0
        · have e1 : ∀ s, ¬ sb s 4 = 0 → nwS f E s 4 p = .inl (29, p) := fun s h => by unfold nwS; rw [if_neg ht, if_neg (by decide), if_pos h]
          rw [hk, e1 s h4, e1 s0 (by omega)]
          exact ⟨fun e h9 => h9, fun s1 h9 => (by cases h9)⟩
        · have e1 : ∀ s, ¬ ¬ sb s 4 = 0 → nwS f E s 4 p = .inr (so s 4) := fun s h => by unfold nwS; rw [if_neg ht, if_neg (by decide), if_neg h]
          rw [hk, e1 s h4, e1 s0 (by omega)]
          have h9 := ih (p := p + 6 + by4 f (p + 2)) (s := so s 4) (s0 := so s0 4) (by rw [sb_so, sb_so, if_pos rfl, if_pos rfl])
          refine ⟨h9.1, fun s1 h8 => ?_⟩
          obtain ⟨s', h7, h6⟩ := h9.2 s1 h8
          exact ⟨s', h7, fun j hj => by rw [h6 j hj, sb_so, if_neg hj]⟩
theorem cdS_any (hs : sb s 4 = 0) : (∀ e, cdS f n E mj wa p 0 = .inl e → cdS f n E mj wa p s = .inl e) ∧ (∀ s1, cdS f n E mj wa p 0 = .inr s1 → ∃ s', cdS f n E mj wa p s = .inr s' ∧ ∀ j, ¬ j = 4 → sb s' j = sb s j) := by
  unfold cdS
  split
  · exact ⟨fun e h9 => h9, fun s1 h9 => (by cases h9)⟩
  · split
    · exact ⟨fun e h9 => h9, fun s1 h9 => (by cases h9)⟩
    · split
      · exact ⟨fun e h9 => h9, fun s1 h9 => (by cases h9)⟩
      · exact caS_any (by rw [hs, sb_0])
theorem maS_28 (hi : i < c) (ht : ¬ tg f E (by2 f p) = 1) : maS f n E mj wa (c - i) p s h = .inl (28, p) := by
  rw [maS_st hi, show nwS f E s (mkN f n E (by2 f p)) p = .inl (28, p) by unfold nwS; rw [if_pos ht]]
theorem maS_29 (hi : i < c) (ht : tg f E (by2 f p) = 1) (hk : mkN f n E (by2 f p) = w + 1) (hs : ¬ sb s (w + 1) = 0) : maS f n E mj wa (c - i) p s h = .inl (29, p) := by
  rw [maS_st hi, hk, show nwS f E s (w + 1) p = .inl (29, p) by unfold nwS; rw [if_neg (fun h9 => h9 ht), if_neg (by omega), if_pos hs]]
theorem maS_u (hi : i < c) (ht : tg f E (by2 f p) = 1) (hk : mkN f n E (by2 f p) = 0) : maS f n E mj wa (c - i) p s h = maS f n E mj wa (c - (i + 1)) (p + 6 + by4 f (p + 2)) s h := by
  rw [maS_st hi, hk, show nwS f E s 0 p = .inr s by unfold nwS; rw [if_neg (fun h9 => h9 ht), if_pos rfl]]
  dsimp only
  rw [if_neg (fun h9 => h9.1 rfl), if_neg (by decide), if_neg (fun h9 => absurd h9.1 (by decide))]
theorem nw_k (ht : tg f E (by2 f p) = 1) (hs : sb s (w + 1) = 0) : nwS f E s (w + 1) p = .inr (so s (w + 1)) := by
  unfold nwS
  rw [if_neg (fun h9 => h9 ht), if_neg (by omega), if_neg (fun h9 => h9 hs)]
theorem maS_30 (hi : i < c) (ht : tg f E (by2 f p) = 1) (hk : mkN f n E (by2 f p) = w + 1) (hs : sb s (w + 1) = 0) (hf : ¬ s_fe f (w + 1) (p + 6) (p + 6 + by4 f (p + 2)) = some (p + 6 + by4 f (p + 2))) : maS f n E mj wa (c - i) p s h = .inl (30, p) := by
  rw [maS_st hi, hk, nw_k ht hs]
  dsimp only
  rw [if_pos ⟨by omega, hf⟩]
theorem maS_kb {e : Nat × Nat} (hi : i < c) (ht : tg f E (by2 f p) = 1) (hk : mkN f n E (by2 f p) = w + 1) (hw : w = 1 ∨ w = 2) (hs : sb s (w + 1) = 0) (h4 : sb s 2 = 0 → sb s 4 = 0) (hf : s_fe f (w + 1) (p + 6) (p + 6 + by4 f (p + 2)) = some (p + 6 + by4 f (p + 2))) (hm : mbS f n E mj wa w p = .inl e) : maS f n E mj wa (c - i) p s h = .inl e := by
  rw [maS_st hi, hk, nw_k ht hs]
  dsimp only
  rw [if_neg (fun h9 => h9.2 hf)]
  rcases hw with rfl | rfl
  · unfold mbS at hm
    rw [if_pos rfl] at hm
    rw [if_pos (by decide), (cdS_any (s := so s (1 + 1)) (by rw [sb_so, if_neg (by decide)]; exact h4 hs)).1 e hm]
  · unfold mbS at hm
    rw [if_neg (by decide)] at hm
    split at hm
    · rename_i h9
      cases hm
      rw [if_neg (by decide), if_pos ⟨by decide, h9⟩]
    · cases hm
theorem maS_kg {s1 : Nat} (hi : i < c) (ht : tg f E (by2 f p) = 1) (hk : mkN f n E (by2 f p) = w + 1) (hw : w = 1 ∨ w = 2) (hs : sb s (w + 1) = 0) (h4 : sb s 2 = 0 → sb s 4 = 0) (hf : s_fe f (w + 1) (p + 6) (p + 6 + by4 f (p + 2)) = some (p + 6 + by4 f (p + 2))) (hm : mbS f n E mj wa w p = .inr s1) :
    ∃ s', maS f n E mj wa (c - i) p s h = maS f n E mj wa (c - (i + 1)) (p + 6 + by4 f (p + 2)) s' (if w = 1 then 1 else h) ∧ (∀ j, ¬ j = 4 → sb s' j = sb (so s (w + 1)) j) ∧ (w = 2 → s' = so s 3) := by
  rw [maS_st hi, hk, nw_k ht hs]
  dsimp only
  rw [if_neg (fun h9 => h9.2 hf)]
  rcases hw with rfl | rfl
  · unfold mbS at hm
    rw [if_pos rfl] at hm
    obtain ⟨s', h9, h8⟩ := (cdS_any (s := so s (1 + 1)) (by rw [sb_so, if_neg (by decide)]; exact h4 hs)).2 s1 hm
    refine ⟨s', ?_, h8, fun h7 => absurd h7 (by decide)⟩
    rw [if_pos (by decide), h9, if_pos rfl]
  · unfold mbS at hm
    rw [if_neg (by decide)] at hm
    split at hm
    · cases hm
    · rename_i h9
      refine ⟨so s 3, ?_, fun _ _ => rfl, fun _ => rfl⟩
      rw [if_neg (by decide), if_neg (fun h8 => h9 h8.2), if_neg (by decide)]
theorem mk_b {s3 s4 : Nat} (hw : w = 1 ∨ w = 2) (hb : sb s3 1 = sb s 2 ∧ sb s3 2 = sb s 3 ∧ (sb s 2 = 0 → sb s 4 = 0)) (hf : ∀ j, ¬ j = 4 → sb s4 j = sb (so s (w + 1)) j) (hg : w = 2 → s4 = so s 3) : sb (so s3 w) 1 = sb s4 2 ∧ sb (so s3 w) 2 = sb s4 3 ∧ (sb s4 2 = 0 → sb s4 4 = 0) := by
  rw [hf 2 (by decide), hf 3 (by decide)]
  rcases hw with rfl | rfl
  · rw [sb_so, sb_so, sb_so, sb_so]
    exact ⟨rfl, hb.2.1, fun h9 => absurd h9 (by rw [if_pos rfl]; decide)⟩
  · rw [hg rfl, sb_so, sb_so, sb_so, sb_so, sb_so]
    exact ⟨hb.1, rfl, hb.2.2⟩
end MAS
theorem kb_2 {mj : Nat} {l : List Nat} : kb mj 2 l 10 = if ¬ eqN l (ltx 17) = 0 then some 2 else if ¬ eqN l (ltx 16) = 0 then some 1 else none := by
  simp only [kb, kiN, kfN]
  simp
theorem lt_2 : ltx 1 = ltx 16 ∧ ltx 2 = ltx 17 := by decide +kernel
theorem lt_21 : ¬ ltx 16 = ltx 17 := by decide +kernel
theorem mk_kb {f : Nat → Int32} {n mj x : Nat} {E : List (Nat × Nat)} : (kb mj 2 (tX f n E x) 10 = none ∧ mkN f n E x = 0) ∨ ∃ w, kb mj 2 (tX f n E x) 10 = some w ∧ (w = 1 ∨ w = 2) ∧ mkN f n E x = w + 1 := by
  rw [kb_2]
  unfold mkN
  rw [lt_2.1, lt_2.2]
  generalize tX f n E x = l
  by_cases h1 : l = ltx 16
  · have e1 : eqN l (ltx 16) = 1 := by unfold eqN; rw [if_pos h1]
    have e2 : eqN l (ltx 17) = 0 := by unfold eqN; rw [if_neg (fun h => lt_21 (h1.symm.trans h))]
    rw [e1, e2]
    exact Or.inr ⟨1, rfl, Or.inl rfl, rfl⟩
  · have e1 : eqN l (ltx 16) = 0 := by unfold eqN; rw [if_neg h1]
    rw [e1]
    by_cases h2 : ¬ eqN l (ltx 17) = 0
    · exact Or.inr ⟨2, by rw [if_pos h2], Or.inr rfl, by rw [if_neg (by decide), if_pos h2]⟩
    · exact Or.inl ⟨by rw [if_neg h2, if_neg (by decide)], by rw [if_neg (by decide), if_neg h2]⟩
theorem mk_y {f : Nat → Int32} {n mj x : Nat} {E : List (Nat × Nat)} (h : ¬ (gI (kb mj 2 (tX f n E x) 10) < 0)) : ∃ w, kb mj 2 (tX f n E x) 10 = some w ∧ (w = 1 ∨ w = 2) ∧ mkN f n E x = w + 1 := by
  rcases mk_kb (f := f) (n := n) (E := E) (x := x) (mj := mj) with h9 | h9
  · rw [h9.1] at h
    exact absurd (by decide) h
  · exact h9
theorem mk_n {f : Nat → Int32} {n mj x : Nat} {E : List (Nat × Nat)} (h : gI (kb mj 2 (tX f n E x) 10) < 0) : mkN f n E x = 0 := by
  rcases mk_kb (f := f) (n := n) (E := E) (x := x) (mj := mj) with h9 | ⟨w, h8, h7, h6⟩
  · exact h9.2
  · rw [h8] at h
    exfalso
    have h2 : nI w < nI 0 := h
    have h3 := (lt_nI (p := w) (n := 0) (by omega) (by decide)).mp h2
    omega
set_option maxHeartbeats 1000000 in
theorem rd_attrM {g : xe_G} {m0 : Nat} {q : Nat → Nat} {z : Nat × Nat} {I : rI} {R : rR} {M : mi_H} {n : Nat} {f : Nat → Int32} {tx : List (List Nat)} {cN : Nat} {A : Nat → Nat} {N mj : Nat} {E : List (Nat × Nat)} {p e x s3 w fl ds wa h : Nat} {l : List Nat} {t : Int32} (hR : RS g m0 q z I R M) (hi51 : I 51 = some 0) (hi52 : I 52 = some (nI N)) (hi53 : I 53 = some (nI mj)) (hF : FK n f I R) (hY : SYT tx cN A I R) (hP : RPV f n E tx N I R) (hK : KX I R) (hX : MX fl ds x I R) (hC : CX h x I R) (hEP : EP f n E) (hN : N < 65536) (hmj : mj < 65536) (he : p + 6 ≤ e ∧ e ≤ n) (hs3 : s3 < 2048) (hx : x < 8300) (hdt : ds < tx.length ∧ tx.getD ds [] = l) (hmt : ¬ mthN l = 0) (hf6 : fl < 65536) (hwa : wa = argN l + (if aN fl 8 = 0 then 1 else 0)) (hw : w = 1 ∨ w = 2) : pt (mT g) 177 [.ref m0, .int (nI w), .int t, .int (nI (p + 6)), .int (nI e), .int (nI x), .int (nI s3)] M (fun v M' => (∃  (I' : rI) (R' : rR), (¬ s_fe f (w + 1) (p + 6) e = some e) ∧ v = some (.int 30) ∧ RS g m0 q z I' R' M' ∧ eqI [47, 48] I I' ∧ eqR [37, 38, 39, 40, 41, 42, 44] R R') ∨ (∃ (r : Nat) (I' : rI) (R' : rR), (s_fe f (w + 1) (p + 6) e = some e) ∧ (mbS f n E mj wa w p = .inl (r, p)) ∧ (32 ≤ r ∧ r ≤ 43) ∧ v = some (.int (nI r)) ∧ RS g m0 q z I' R' M' ∧ eqI [47, 48] I I' ∧ eqR [37, 38, 39, 40, 41, 42, 44] R R') ∨ (∃ (e9 : Nat × Nat) (I' : rI) (R' : rR), (s_fe f (w + 1) (p + 6) e = some e) ∧ (mbS f n E mj wa w p = .inl e9) ∧ v = some (.int (-1)) ∧ RS g m0 q z I' R' M' ∧ eqI [47, 48] I I' ∧ eqR [37, 38, 39, 40, 41, 42, 44] R R' ∧ I' 47 = some (nI e9.1) ∧ I' 48 = some (nI e9.2)) ∨ (∃ (s' : Nat) (I' : rI) (R' : rR), (s_fe f (w + 1) (p + 6) e = some e) ∧ (mbS f n E mj wa w p = .inr s') ∧ v = some (.int 0) ∧ RS g m0 q z I' R' M' ∧ eqI [47, 48] I I' ∧ eqR [37, 38, 39, 40, 41, 42, 44] R R' ∧ CX (if w = 1 then 1 else h) x I' R')) := by
  rcases hw with rfl | rfl
  · refine pt.mono (rd_attr1 (w := wa) (s3 := s3) (t := t) hR hi51 hi52 hi53 hF hY hP hK hEP hN hmj he hx hX.1 hX.2 hdt hmt hf6 hwa) (fun v M' h9 => ?_)
    rcases h9 with ⟨I', R', hs, hv, hR', hI', hX'⟩ | ⟨r, I', R', hs, hb, hl, hv, hR', hI', hX'⟩ | ⟨e9, I', R', hs, hb, hv, hR', hI', hX', h47, h48⟩ | ⟨s', I', R', hs, hb, hc, hv, hR', hI', hX'⟩
    · exact Or.inl ⟨I', R', hs, hv, hR', eqI.rf.tr hI' (by decide), eqR.rf.tr hX' (by decide)⟩
    · exact Or.inr (Or.inl ⟨r, I', R', hs, by unfold mbS; rw [if_pos rfl]; exact hb, by omega, hv, hR', eqI.rf.tr hI' (by decide), eqR.rf.tr hX' (by decide)⟩)
    · exact Or.inr (Or.inr (Or.inl ⟨e9, I', R', hs, by unfold mbS; rw [if_pos rfl]; exact hb, hv, hR', eqI.rf.tr hI' (by decide), eqR.rf.tr hX' (by decide), h47, h48⟩))
    · exact Or.inr (Or.inr (Or.inr ⟨s', I', R', hs, by unfold mbS; rw [if_pos rfl]; exact hb, hv, hR', eqI.rf.tr hI' (by decide), eqR.rf.tr hX' (by decide), by (unfold CX; rw [if_pos rfl, if_neg (by decide)]; exact ⟨p + 14, by have := hF.1; omega, hc⟩)⟩))
  · refine pt.mono (rd_attr2 (p0 := p + 6) hR hi51 hi52 hi53 hF hY hP hEP hN hmj he hs3 hx) (fun v M' h9 => ?_)
    rcases h9 with ⟨I', R', hs, hv, hR', hI', hX'⟩ | ⟨I', R', hs, hb, hv, hR', hI', hX'⟩ | ⟨I', R', hs, hb, hv, hR', hI', hX'⟩
    · exact Or.inl ⟨I', R', hs, hv, hR', eqI.rf.tr hI' (by decide), eqR.rf.tr hX' (by decide)⟩
    · exact Or.inr (Or.inl ⟨32, I', R', hs, by unfold mbS; rw [if_neg (by decide), if_pos hb], by decide, hv, hR', eqI.rf.tr hI' (by decide), eqR.rf.tr hX' (by decide)⟩)
    · exact Or.inr (Or.inr (Or.inr ⟨0, I', R', hs, by unfold mbS; rw [if_neg (by decide), if_neg hb], hv, hR', eqI.rf.tr hI' (by decide), eqR.rf.tr hX' (by decide), by (rw [if_neg (by decide)]; exact hC.mono (fun _ h => absurd h (List.not_mem_nil)) (cRx hX' (by decide)))⟩))
set_option maxHeartbeats 4000000 in
theorem rd_checkAttributes2 {g : xe_G} {m0 : Nat} {q : Nat → Nat} {z : Nat × Nat} {I : rI} {R : rR} {M : mi_H} {n : Nat} {f : Nat → Int32} {tx : List (List Nat)} {cN : Nat} {A : Nat → Nat} {N mj : Nat} {E : List (Nat × Nat)} {p1 e x fl ds wa : Nat} {l : List Nat} (hR : RS g m0 q z I R M) (hi51 : I 51 = some 0) (hi52 : I 52 = some (nI N)) (hi53 : I 53 = some (nI mj)) (hF : FK n f I R) (hY : SYT tx cN A I R) (hP : RPV f n E tx N I R) (hK : KX I R) (hX : MX fl ds x I R) (hC : CX 0 x I R) (hEP : EP f n E) (hN : N < 65536) (hmj : mj < 65536) (hin : p1 + 2 ≤ e ∧ e ≤ n) (hat : s_atE f e (by2 f p1) (p1 + 2) = some e) (hx : x < 8300) (hdt : ds < tx.length ∧ tx.getD ds [] = l) (hmt : ¬ mthN l = 0) (hf6 : fl < 65536) (hwa : wa = argN l + (if aN fl 8 = 0 then 1 else 0)) : pt (mT g) 187 [.ref m0, .int (nI p1), .int 2, .int (nI x)] M (fun v M' => (∃ (e9 : Nat × Nat) (I' : rI) (R' : rR), (maS f n E mj wa (by2 f p1) (p1 + 2) 0 0 = .inl e9) ∧ v = some (.int (-1)) ∧ RS g m0 q z I' R' M' ∧ eqI [47, 48] I I' ∧ eqR [37, 38, 39, 40, 41, 42, 43, 44] R R' ∧ I' 47 = some (nI e9.1) ∧ I' 48 = some (nI e9.2)) ∨ (∃ (h9 : Nat) (I' : rI) (R' : rR), (maS f n E mj wa (by2 f p1) (p1 + 2) 0 0 = .inr h9) ∧ v = some (.int (nI e)) ∧ RS g m0 q z I' R' M' ∧ eqI [47, 48] I I' ∧ eqR [37, 38, 39, 40, 41, 42, 43, 44] R R' ∧ CX h9 x I' R')) := by
  refine pt_in (b := mb_187 g) rfl (fun kf => ?_)
  show pl (mT g) kf (mb_187 g).2 (0, [(0, .ref m0), (1, .int (nI p1)), (2, .int 2), (3, .int (nI x))], [], M) _
  have hEI : eqI [47, 48] I I := eqI.rf
  have hER : eqR [37, 38, 39, 40, 41, 42, 43, 44] R R := eqR.rf
  have hn := hF.1
  have LL : ∀ (kf : Nat), (∀ (i p s2 s3 : Nat) (h : Nat) (M1 : mi_H) (I1 : rI) (R1 : rR), (RS g m0 q z I1 R1 M1) → (eqI [47, 48] I I1) → (eqR [37, 38, 39, 40, 41, 42, 43, 44] R R1) → (I1 51 = some 0) → (I1 52 = some (nI N)) → (I1 53 = some (nI mj)) → (FK n f I1 R1) → (SYT tx cN A I1 R1) → (RPV f n E tx N I1 R1) → (KX I1 R1) → (MX fl ds x I1 R1) → (CX h x I1 R1) → (i ≤ by2 f p1) → (s3 < 2048) → (sb s3 1 = sb s2 2 ∧ sb s3 2 = sb s2 3 ∧ (sb s2 2 = 0 → sb s2 4 = 0)) → (s_atE f e (by2 f p1 - i) p = some e) → (maS f n E mj wa (by2 f p1 - i) p s2 h = maS f n E mj wa (by2 f p1) (p1 + 2) 0 0) →  pl (mT g) kf (mb_187 g).2 (18, [(0, .ref m0), (2, .int 2), (3, .int (nI x)), (4, .int (nI (by2 f p1))), (5, .int (nI p)), (6, .int (nI s3)), (7, .int (nI i))], [], M1) (fun v M' => (∃ (e9 : Nat × Nat) (I' : rI) (R' : rR), (maS f n E mj wa (by2 f p1) (p1 + 2) 0 0 = .inl e9) ∧ v = some (.int (-1)) ∧ RS g m0 q z I' R' M' ∧ eqI [47, 48] I I' ∧ eqR [37, 38, 39, 40, 41, 42, 43, 44] R R' ∧ I' 47 = some (nI e9.1) ∧ I' 48 = some (nI e9.2)) ∨ (∃ (h9 : Nat) (I' : rI) (R' : rR), (maS f n E mj wa (by2 f p1) (p1 + 2) 0 0 = .inr h9) ∧ v = some (.int (nI e)) ∧ RS g m0 q z I' R' M' ∧ eqI [47, 48] I I' ∧ eqR [37, 38, 39, 40, 41, 42, 43, 44] R R' ∧ CX h9 x I' R'))) ∧ (∀ (i p s2 s3 k t : Nat) (h : Nat) (M1 : mi_H) (I1 : rI) (R1 : rR), (RS g m0 q z I1 R1 M1) → (eqI [47, 48] I I1) → (eqR [37, 38, 39, 40, 41, 42, 43, 44] R R1) → (I1 51 = some 0) → (I1 52 = some (nI N)) → (I1 53 = some (nI mj)) → (FK n f I1 R1) → (SYT tx cN A I1 R1) → (RPV f n E tx N I1 R1) → (KX I1 R1) → (MX fl ds x I1 R1) → (CX h x I1 R1) → (i < by2 f p1) → (s3 < 2048) → (sb s3 1 = sb s2 2 ∧ sb s3 2 = sb s2 3 ∧ (sb s2 2 = 0 → sb s2 4 = 0)) → (s_atE f e (by2 f p1 - i) p = some e) → (maS f n E mj wa (by2 f p1 - i) p s2 h = maS f n E mj wa (by2 f p1) (p1 + 2) 0 0) → (k ≤ 10) → (tg f E (by2 f p) = 1) → (t < tx.length ∧ tx.getD t [] = tX f n E (by2 f p)) →  pl (mT g) kf (mb_187 g).2 (79, [(0, .ref m0), (2, .int 2), (3, .int (nI x)), (4, .int (nI (by2 f p1))), (5, .int (nI p)), (6, .int (nI s3)), (7, .int (nI i)), (8, .int (nI (by4 f (p + 2)))), (9, .int (nI t)), (10, .int (gI (kb mj 2 (tX f n E (by2 f p)) k))), (11, .int (nI k))], [], M1) (fun v M' => (∃ (e9 : Nat × Nat) (I' : rI) (R' : rR), (maS f n E mj wa (by2 f p1) (p1 + 2) 0 0 = .inl e9) ∧ v = some (.int (-1)) ∧ RS g m0 q z I' R' M' ∧ eqI [47, 48] I I' ∧ eqR [37, 38, 39, 40, 41, 42, 43, 44] R R' ∧ I' 47 = some (nI e9.1) ∧ I' 48 = some (nI e9.2)) ∨ (∃ (h9 : Nat) (I' : rI) (R' : rR), (maS f n E mj wa (by2 f p1) (p1 + 2) 0 0 = .inr h9) ∧ v = some (.int (nI e)) ∧ RS g m0 q z I' R' M' ∧ eqI [47, 48] I I' ∧ eqR [37, 38, 39, 40, 41, 42, 43, 44] R R' ∧ CX h9 x I' R'))) := by
    intro kf
    induction kf with
    | zero => exact ⟨by intros; exact pl_0, by intros; exact pl_0⟩
    | succ kf ih =>
      refine ⟨?_, ?_⟩
      · skip
        intro i p s2 s3 h M1 I1 R1 hR1 hEI1 hER1 hl51 hl52 hl53 hF1 hY1 hP1 hK1 hX1 hC1 hi hl hb ha hs9
        have hn := hF1.1
        have hu9 := by2_lt f p1
        have htl := hY1.1.2.2.1
        refine ps_st1 (S' := (20, [(0, .ref m0), (2, .int 2), (3, .int (nI x)), (4, .int (nI (by2 f p1))), (5, .int (nI p)), (6, .int (nI s3)), (7, .int (nI i))], [.int (nI i)], M1)) rfl rfl rfl ?_
        refine ps_st (S' := (22, [(0, .ref m0), (2, .int 2), (3, .int (nI x)), (4, .int (nI (by2 f p1))), (5, .int (nI p)), (6, .int (nI s3)), (7, .int (nI i))], [.int (nI (by2 f p1)), .int (nI i)], M1)) rfl rfl rfl ?_
        refine ps_if2 (S1 := (284, [(0, .ref m0), (2, .int 2), (3, .int (nI x)), (4, .int (nI (by2 f p1))), (5, .int (nI p)), (6, .int (nI s3)), (7, .int (nI i))], [], M1)) (S2 := (25, [(0, .ref m0), (2, .int 2), (3, .int (nI x)), (4, .int (nI (by2 f p1))), (5, .int (nI p)), (6, .int (nI s3)), (7, .int (nI i))], [], M1)) rfl rfl rfl (fun c_22 => ?_) (fun c_22 => ?_)
        · have c_22 : (nI (by2 f p1)) ≤ (nI i) := of_decide_eq_true c_22
          have n_22 : by2 f p1 ≤ i := (le_nI (p := by2 f p1) (n := i) (Nat.lt_trans (by2_lt _ _) (by decide)) (by omega)).mp c_22
          refine ps_st (S' := (286, [(0, .ref m0), (2, .int 2), (3, .int (nI x)), (4, .int (nI (by2 f p1))), (5, .int (nI p)), (6, .int (nI s3)), (7, .int (nI i))], [.int (nI p)], M1)) rfl rfl rfl ?_
          exact ps_reti rfl (Or.inr ⟨h, I1, R1, by rw [← hs9, show by2 f p1 - i = 0 by omega]; rfl, by rw [show e = p by (rw [show by2 f p1 - i = 0 by omega] at ha; exact (Option.some.inj ha).symm)], hR1, hEI1, hER1, hC1⟩)
        · have c_22 : ¬ ((nI (by2 f p1)) ≤ (nI i)) := of_decide_eq_false c_22
          have n_22 : ¬ (by2 f p1 ≤ i) := fun h9 => c_22 ((le_nI (p := by2 f p1) (n := i) (Nat.lt_trans (by2_lt _ _) (by decide)) (by omega)).mpr h9)
          obtain ⟨hq5, hq6, hq7⟩ := s_atE_in (i := i) (p := p) ha (by omega)
          refine ps_st (S' := (26, [(0, .ref m0), (2, .int 2), (3, .int (nI x)), (4, .int (nI (by2 f p1))), (5, .int (nI p)), (6, .int (nI s3)), (7, .int (nI i))], [.ref m0], M1)) rfl rfl rfl ?_
          refine ps_st (S' := (28, [(0, .ref m0), (2, .int 2), (3, .int (nI x)), (4, .int (nI (by2 f p1))), (5, .int (nI p)), (6, .int (nI s3)), (7, .int (nI i))], [.int (nI p), .ref m0], M1)) rfl rfl rfl ?_
          refine ps_st (S' := (29, [(0, .ref m0), (2, .int 2), (3, .int (nI x)), (4, .int (nI (by2 f p1))), (5, .int (nI p)), (6, .int (nI s3)), (7, .int (nI i))], [.int 2, .int (nI p), .ref m0], M1)) rfl rfl rfl ?_
          refine ps_st (S' := (30, [(0, .ref m0), (2, .int 2), (3, .int (nI x)), (4, .int (nI (by2 f p1))), (5, .int (nI p)), (6, .int (nI s3)), (7, .int (nI i))], [.int ((nI p) + 2), .ref m0], M1)) rfl rfl rfl ?_
          rw [nI_add1 (p := p) (k := 2) (x := 2) rfl (by omega)]
          show pl _ _ _ (_, [(0, .ref m0), (2, .int 2), (3, .int (nI x)), (4, .int (nI (by2 f p1))), (5, .int (nI p)), (6, .int (nI s3)), (7, .int (nI i))], [.int (nI (p + 2)), .ref m0], M1) _
          refine pl_call (a := [.ref m0, .int (nI (p + 2))]) (rest := []) rfl rfl rfl (rd_u4 (n := n) (f := f) (p := (p + 2)) hR1 hF1 (by omega)) (fun v1 M2 q3 => ?_)
          obtain ⟨rfl, rfl⟩ := q3
          show pl _ _ _ (33, [(0, .ref m0), (2, .int 2), (3, .int (nI x)), (4, .int (nI (by2 f p1))), (5, .int (nI p)), (6, .int (nI s3)), (7, .int (nI i))], [.long (nL (by4 f (p + 2)))], M1) _
          have hu_30 := by4_lt f (p + 2)
          refine ps_st (S' := (34, [(0, .ref m0), (2, .int 2), (3, .int (nI x)), (4, .int (nI (by2 f p1))), (5, .int (nI p)), (6, .int (nI s3)), (7, .int (nI i))], [.int (Int64.toInt32 (nL (by4 f (p + 2))))], M1)) rfl rfl rfl ?_
          rw [l2i_nL (p := by4 f (p + 2)) (by omega)]
          show pl _ _ _ (_, [(0, .ref m0), (2, .int 2), (3, .int (nI x)), (4, .int (nI (by2 f p1))), (5, .int (nI p)), (6, .int (nI s3)), (7, .int (nI i))], [.int (nI (by4 f (p + 2)))], M1) _
          refine ps_st (S' := (36, [(8, .int (nI (by4 f (p + 2)))), (0, .ref m0), (2, .int 2), (3, .int (nI x)), (4, .int (nI (by2 f p1))), (5, .int (nI p)), (6, .int (nI s3)), (7, .int (nI i))], [], M1)) rfl rfl rfl ?_
          refine ps_st (S' := (37, [(8, .int (nI (by4 f (p + 2)))), (0, .ref m0), (2, .int 2), (3, .int (nI x)), (4, .int (nI (by2 f p1))), (5, .int (nI p)), (6, .int (nI s3)), (7, .int (nI i))], [.ref m0], M1)) rfl rfl rfl ?_
          refine ps_st (S' := (38, [(8, .int (nI (by4 f (p + 2)))), (0, .ref m0), (2, .int 2), (3, .int (nI x)), (4, .int (nI (by2 f p1))), (5, .int (nI p)), (6, .int (nI s3)), (7, .int (nI i))], [.ref m0, .ref m0], M1)) rfl rfl rfl ?_
          refine ps_st (S' := (40, [(8, .int (nI (by4 f (p + 2)))), (0, .ref m0), (2, .int 2), (3, .int (nI x)), (4, .int (nI (by2 f p1))), (5, .int (nI p)), (6, .int (nI s3)), (7, .int (nI i))], [.int (nI p), .ref m0, .ref m0], M1)) rfl rfl rfl ?_
          refine pl_call (a := [.ref m0, .int (nI p)]) (rest := [.ref m0]) rfl rfl rfl (rd_u2 (n := n) (f := f) (p := p) hR1 hF1 (by omega)) (fun v4 M5 q6 => ?_)
          obtain ⟨rfl, rfl⟩ := q6
          show pl _ _ _ (43, [(8, .int (nI (by4 f (p + 2)))), (0, .ref m0), (2, .int 2), (3, .int (nI x)), (4, .int (nI (by2 f p1))), (5, .int (nI p)), (6, .int (nI s3)), (7, .int (nI i))], [.int (nI (by2 f p)), .ref m0], M1) _
          have hu_40 := by2_lt f p
          refine pl_call (a := [.ref m0, .int (nI (by2 f p))]) (rest := []) rfl rfl rfl (rd_tag (n := n) (f := f) (tx := tx) (cN := cN) (A := A) (N := N) (mj := mj) (E := E) (k := (by2 f p)) hR1 hl51 hl52 hl53 hF1 hY1 hP1 (hEP) (hN) (hmj) (by2_lt _ _)) (fun v7 M8 q9 => ?_)
          obtain ⟨rfl, rfl⟩ := q9
          show pl _ _ _ (46, [(8, .int (nI (by4 f (p + 2)))), (0, .ref m0), (2, .int 2), (3, .int (nI x)), (4, .int (nI (by2 f p1))), (5, .int (nI p)), (6, .int (nI s3)), (7, .int (nI i))], [.int (nI (tg f E (by2 f p)))], M1) _
          have htg_43 := tg_lt f E (by2 f p)
          refine ps_st (S' := (47, [(8, .int (nI (by4 f (p + 2)))), (0, .ref m0), (2, .int 2), (3, .int (nI x)), (4, .int (nI (by2 f p1))), (5, .int (nI p)), (6, .int (nI s3)), (7, .int (nI i))], [.int 1, .int (nI (tg f E (by2 f p)))], M1)) rfl rfl rfl ?_
          refine ps_if2 (S1 := (61, [(8, .int (nI (by4 f (p + 2)))), (0, .ref m0), (2, .int 2), (3, .int (nI x)), (4, .int (nI (by2 f p1))), (5, .int (nI p)), (6, .int (nI s3)), (7, .int (nI i))], [], M1)) (S2 := (50, [(8, .int (nI (by4 f (p + 2)))), (0, .ref m0), (2, .int 2), (3, .int (nI x)), (4, .int (nI (by2 f p1))), (5, .int (nI p)), (6, .int (nI s3)), (7, .int (nI i))], [], M1)) rfl rfl rfl (fun c_47 => ?_) (fun c_47 => ?_)
          · have c_47 : (nI (tg f E (by2 f p))) = 1 := of_decide_eq_true c_47
            have n_47 : tg f E (by2 f p) = 1 := (eq_nI (p := tg f E (by2 f p)) (n := 1) (Nat.lt_trans (tg_lt _ _ _) (by decide)) (by decide)).mp c_47
            refine ps_st (S' := (62, [(8, .int (nI (by4 f (p + 2)))), (0, .ref m0), (2, .int 2), (3, .int (nI x)), (4, .int (nI (by2 f p1))), (5, .int (nI p)), (6, .int (nI s3)), (7, .int (nI i))], [.ref m0], M1)) rfl rfl rfl ?_
            refine ps_st (S' := (63, [(8, .int (nI (by4 f (p + 2)))), (0, .ref m0), (2, .int 2), (3, .int (nI x)), (4, .int (nI (by2 f p1))), (5, .int (nI p)), (6, .int (nI s3)), (7, .int (nI i))], [.ref m0, .ref m0], M1)) rfl rfl rfl ?_
            refine ps_st (S' := (65, [(8, .int (nI (by4 f (p + 2)))), (0, .ref m0), (2, .int 2), (3, .int (nI x)), (4, .int (nI (by2 f p1))), (5, .int (nI p)), (6, .int (nI s3)), (7, .int (nI i))], [.int (nI p), .ref m0, .ref m0], M1)) rfl rfl rfl ?_
            refine pl_call (a := [.ref m0, .int (nI p)]) (rest := [.ref m0]) rfl rfl rfl (rd_u2 (n := n) (f := f) (p := p) hR1 hF1 (by omega)) (fun v10 M11 q12 => ?_)
            obtain ⟨rfl, rfl⟩ := q12
            show pl _ _ _ (68, [(8, .int (nI (by4 f (p + 2)))), (0, .ref m0), (2, .int 2), (3, .int (nI x)), (4, .int (nI (by2 f p1))), (5, .int (nI p)), (6, .int (nI s3)), (7, .int (nI i))], [.int (nI (by2 f p)), .ref m0], M1) _
            have hu_65 := by2_lt f p
            refine pl_call (a := [.ref m0, .int (nI (by2 f p))]) (rest := []) rfl rfl rfl (rd_symOf (n := n) (f := f) (tx := tx) (cN := cN) (A := A) (N := N) (mj := mj) (E := E) (k := (by2 f p)) hR1 hl51 hl52 hl53 hF1 hY1 hP1 (hEP) (hN) (hmj) (by omega)) (fun v13 M14 q15 => ?_)
            obtain ⟨s16, q68_s, rfl, rfl⟩ := q15
            show pl _ _ _ (71, [(8, .int (nI (by4 f (p + 2)))), (0, .ref m0), (2, .int 2), (3, .int (nI x)), (4, .int (nI (by2 f p1))), (5, .int (nI p)), (6, .int (nI s3)), (7, .int (nI i))], [.int (nI s16)], M1) _
            have hsl_68 := q68_s.1
            have htl_68 := hY1.1.2.2.1
            refine ps_st (S' := (73, [(9, .int (nI s16)), (8, .int (nI (by4 f (p + 2)))), (0, .ref m0), (2, .int 2), (3, .int (nI x)), (4, .int (nI (by2 f p1))), (5, .int (nI p)), (6, .int (nI s3)), (7, .int (nI i))], [], M1)) rfl rfl rfl ?_
            refine ps_st (S' := (74, [(9, .int (nI s16)), (8, .int (nI (by4 f (p + 2)))), (0, .ref m0), (2, .int 2), (3, .int (nI x)), (4, .int (nI (by2 f p1))), (5, .int (nI p)), (6, .int (nI s3)), (7, .int (nI i))], [.int (-1)], M1)) rfl rfl rfl ?_
            refine ps_st (S' := (76, [(10, .int (-1)), (9, .int (nI s16)), (8, .int (nI (by4 f (p + 2)))), (0, .ref m0), (2, .int 2), (3, .int (nI x)), (4, .int (nI (by2 f p1))), (5, .int (nI p)), (6, .int (nI s3)), (7, .int (nI i))], [], M1)) rfl rfl rfl ?_
            refine ps_st (S' := (77, [(10, .int (-1)), (9, .int (nI s16)), (8, .int (nI (by4 f (p + 2)))), (0, .ref m0), (2, .int 2), (3, .int (nI x)), (4, .int (nI (by2 f p1))), (5, .int (nI p)), (6, .int (nI s3)), (7, .int (nI i))], [.int 0], M1)) rfl rfl rfl ?_
            refine ps_st (S' := (79, [(0, .ref m0), (2, .int 2), (3, .int (nI x)), (4, .int (nI (by2 f p1))), (5, .int (nI p)), (6, .int (nI s3)), (7, .int (nI i)), (8, .int (nI (by4 f (p + 2)))), (9, .int (nI s16)), (10, .int (-1)), (11, .int 0)], [], M1)) rfl rfl rfl ?_
            exact ih.2 (i) (p) (s2) (s3) (0) (s16) (h) M1 I1 R1 hR1 hEI1 hER1 hl51 hl52 hl53 hF1 hY1 hP1 hK1 hX1 hC1 (by omega) (hl) (hb) (ha) (hs9) (by omega) (by omega) (q68_s)
          · have c_47 : ¬ ((nI (tg f E (by2 f p))) = 1) := of_decide_eq_false c_47
            have n_47 : ¬ (tg f E (by2 f p) = 1) := fun h9 => c_47 ((eq_nI (p := tg f E (by2 f p)) (n := 1) (Nat.lt_trans (tg_lt _ _ _) (by decide)) (by decide)).mpr h9)
            refine ps_st (S' := (51, [(8, .int (nI (by4 f (p + 2)))), (0, .ref m0), (2, .int 2), (3, .int (nI x)), (4, .int (nI (by2 f p1))), (5, .int (nI p)), (6, .int (nI s3)), (7, .int (nI i))], [.ref m0], M1)) rfl rfl rfl ?_
            refine ps_st (S' := (53, [(8, .int (nI (by4 f (p + 2)))), (0, .ref m0), (2, .int 2), (3, .int (nI x)), (4, .int (nI (by2 f p1))), (5, .int (nI p)), (6, .int (nI s3)), (7, .int (nI i))], [.int 28, .ref m0], M1)) rfl rfl rfl ?_
            refine ps_st (S' := (55, [(8, .int (nI (by4 f (p + 2)))), (0, .ref m0), (2, .int 2), (3, .int (nI x)), (4, .int (nI (by2 f p1))), (5, .int (nI p)), (6, .int (nI s3)), (7, .int (nI i))], [.int (nI p), .int 28, .ref m0], M1)) rfl rfl rfl ?_
            refine pl_call (a := [.ref m0, .int 28, .int (nI p)]) (rest := []) rfl rfl rfl (rd_wrong (x1 := 28) (x2 := (nI p)) hR1) (fun v17 M18 q19 => ?_)
            obtain ⟨I20, R21, rfl, hR22, hI23, hX24, hi25, hi26⟩ := q19
            have hi27 := (hI23 51 (by decide)).trans hl51
            have hi28 := (hI23 52 (by decide)).trans hl52
            have hi29 := (hI23 53 (by decide)).trans hl53
            have hF_30 := hF1.mono (cIx hI23 (by decide)) (cRx hX24 (by decide))
            have hY_31 := hY1.mono (cIx hI23 (by decide)) (cRx hX24 (by decide))
            have hP_32 := hP1.mono (cIx hI23 (by decide)) (cRx hX24 (by decide))
            have hK_33 := hK1.mono (cIx hI23 (by decide)) (cRx hX24 (by decide))
            have hX_34 := hX1.mono (cIx hI23 (by decide)) (cRx hX24 (by decide))
            have hC_35 := hC1.mono (cIx hI23 (by decide)) (cRx hX24 (by decide))
            have hEI36 := hEI1.tr hI23 (by decide)
            have hER37 := hER1.tr hX24 (by decide)
            show pl _ _ _ (58, [(8, .int (nI (by4 f (p + 2)))), (0, .ref m0), (2, .int 2), (3, .int (nI x)), (4, .int (nI (by2 f p1))), (5, .int (nI p)), (6, .int (nI s3)), (7, .int (nI i))], [.int 0], M18) _
            refine ps_st (S' := (59, [(8, .int (nI (by4 f (p + 2)))), (0, .ref m0), (2, .int 2), (3, .int (nI x)), (4, .int (nI (by2 f p1))), (5, .int (nI p)), (6, .int (nI s3)), (7, .int (nI i))], [], M18)) rfl rfl rfl ?_
            refine ps_st (S' := (60, [(8, .int (nI (by4 f (p + 2)))), (0, .ref m0), (2, .int 2), (3, .int (nI x)), (4, .int (nI (by2 f p1))), (5, .int (nI p)), (6, .int (nI s3)), (7, .int (nI i))], [.int (-1)], M18)) rfl rfl rfl ?_
            exact ps_ret rfl rfl (Or.inl ⟨(28, p), I20, R21, by
                rw [← hs9, maS_28 (i := i) (p := p) (s := s2) (by omega) (by omega)], rfl, hR22, hEI36, hER37, hi25, hi26⟩)
      · skip
        intro i p s2 s3 k t h M1 I1 R1 hR1 hEI1 hER1 hl51 hl52 hl53 hF1 hY1 hP1 hK1 hX1 hC1 hi0 hl hb ha hs9 hk h1 hsy
        have hn := hF1.1
        have hu9 := by2_lt f p1
        have htl := hY1.1.2.2.1
        obtain ⟨hq5, hq6, hq7⟩ := s_atE_in (i := i) (p := p) ha hi0
        refine ps_st1 (S' := (81, [(0, .ref m0), (2, .int 2), (3, .int (nI x)), (4, .int (nI (by2 f p1))), (5, .int (nI p)), (6, .int (nI s3)), (7, .int (nI i)), (8, .int (nI (by4 f (p + 2)))), (9, .int (nI t)), (10, .int (gI (kb mj 2 (tX f n E (by2 f p)) k))), (11, .int (nI k))], [.int (nI k)], M1)) rfl rfl rfl ?_
        refine ps_st (S' := (82, [(0, .ref m0), (2, .int 2), (3, .int (nI x)), (4, .int (nI (by2 f p1))), (5, .int (nI p)), (6, .int (nI s3)), (7, .int (nI i)), (8, .int (nI (by4 f (p + 2)))), (9, .int (nI t)), (10, .int (gI (kb mj 2 (tX f n E (by2 f p)) k))), (11, .int (nI k))], [.ref m0, .int (nI k)], M1)) rfl rfl rfl ?_
        refine pr_ref (j := 62) (S' := (85, [(0, .ref m0), (2, .int 2), (3, .int (nI x)), (4, .int (nI (by2 f p1))), (5, .int (nI p)), (6, .int (nI s3)), (7, .int (nI i)), (8, .int (nI (by4 f (p + 2)))), (9, .int (nI t)), (10, .int (gI (kb mj 2 (tX f n E (by2 f p)) k))), (11, .int (nI k))], [.ref (q 62), .int (nI k)], M1)) rfl hR1 rfl rfl ?_
        refine pr_knl (S' := (86, [(0, .ref m0), (2, .int 2), (3, .int (nI x)), (4, .int (nI (by2 f p1))), (5, .int (nI p)), (6, .int (nI s3)), (7, .int (nI i)), (8, .int (nI (by4 f (p + 2)))), (9, .int (nI t)), (10, .int (gI (kb mj 2 (tX f n E (by2 f p)) k))), (11, .int (nI k))], [.int (nI 10), .int (nI k)], M1)) rfl hR1 rfl ?_
        refine ps_if2 (S1 := (140, [(0, .ref m0), (2, .int 2), (3, .int (nI x)), (4, .int (nI (by2 f p1))), (5, .int (nI p)), (6, .int (nI s3)), (7, .int (nI i)), (8, .int (nI (by4 f (p + 2)))), (9, .int (nI t)), (10, .int (gI (kb mj 2 (tX f n E (by2 f p)) k))), (11, .int (nI k))], [], M1)) (S2 := (89, [(0, .ref m0), (2, .int 2), (3, .int (nI x)), (4, .int (nI (by2 f p1))), (5, .int (nI p)), (6, .int (nI s3)), (7, .int (nI i)), (8, .int (nI (by4 f (p + 2)))), (9, .int (nI t)), (10, .int (gI (kb mj 2 (tX f n E (by2 f p)) k))), (11, .int (nI k))], [], M1)) rfl rfl rfl (fun c_86 => ?_) (fun c_86 => ?_)
        · have c_86 : (nI 10) ≤ (nI k) := of_decide_eq_true c_86
          have n_86 : 10 ≤ k := (le_nI (p := 10) (n := k) (by decide) (by omega)).mp c_86
          have ek : k = 10 := by omega
          refine ps_st (S' := (142, [(0, .ref m0), (2, .int 2), (3, .int (nI x)), (4, .int (nI (by2 f p1))), (5, .int (nI p)), (6, .int (nI s3)), (7, .int (nI i)), (8, .int (nI (by4 f (p + 2)))), (9, .int (nI t)), (10, .int (gI (kb mj 2 (tX f n E (by2 f p)) k))), (11, .int (nI k))], [.int (gI (kb mj 2 (tX f n E (by2 f p)) k))], M1)) rfl rfl rfl ?_
          refine ps_if (S1 := (268, [(0, .ref m0), (2, .int 2), (3, .int (nI x)), (4, .int (nI (by2 f p1))), (5, .int (nI p)), (6, .int (nI s3)), (7, .int (nI i)), (8, .int (nI (by4 f (p + 2))))], [], M1)) (S2 := (145, [(0, .ref m0), (2, .int 2), (3, .int (nI x)), (4, .int (nI (by2 f p1))), (5, .int (nI p)), (6, .int (nI s3)), (7, .int (nI i)), (8, .int (nI (by4 f (p + 2)))), (9, .int (nI t)), (10, .int (gI (kb mj 2 (tX f n E (by2 f p)) k))), (11, .int (nI k))], [], M1)) rfl rfl rfl (fun c_142 => ?_) (fun c_142 => ?_)
          · have c_142 : (gI (kb mj 2 (tX f n E (by2 f p)) k)) < 0 := of_decide_eq_true c_142
            rw [ek] at c_142
            have hsm := mk_n c_142
            refine ps_st (S' := (270, [(0, .ref m0), (2, .int 2), (3, .int (nI x)), (4, .int (nI (by2 f p1))), (5, .int (nI p)), (6, .int (nI s3)), (7, .int (nI i)), (8, .int (nI (by4 f (p + 2))))], [.int (nI p)], M1)) rfl rfl rfl ?_
            refine ps_st (S' := (272, [(0, .ref m0), (2, .int 2), (3, .int (nI x)), (4, .int (nI (by2 f p1))), (5, .int (nI p)), (6, .int (nI s3)), (7, .int (nI i)), (8, .int (nI (by4 f (p + 2))))], [.int 6, .int (nI p)], M1)) rfl rfl rfl ?_
            refine ps_st (S' := (274, [(0, .ref m0), (2, .int 2), (3, .int (nI x)), (4, .int (nI (by2 f p1))), (5, .int (nI p)), (6, .int (nI s3)), (7, .int (nI i)), (8, .int (nI (by4 f (p + 2))))], [.int (nI (by4 f (p + 2))), .int 6, .int (nI p)], M1)) rfl rfl rfl ?_
            refine ps_st (S' := (275, [(0, .ref m0), (2, .int 2), (3, .int (nI x)), (4, .int (nI (by2 f p1))), (5, .int (nI p)), (6, .int (nI s3)), (7, .int (nI i)), (8, .int (nI (by4 f (p + 2))))], [.int (6 + (nI (by4 f (p + 2)))), .int (nI p)], M1)) rfl rfl rfl ?_
            rw [nI_add2 (p := 6) (k := by4 f (p + 2)) (x := 6) (y := (nI (by4 f (p + 2)))) rfl rfl (by omega)]
            show pl _ _ _ (_, [(0, .ref m0), (2, .int 2), (3, .int (nI x)), (4, .int (nI (by2 f p1))), (5, .int (nI p)), (6, .int (nI s3)), (7, .int (nI i)), (8, .int (nI (by4 f (p + 2))))], [.int (nI (6 + by4 f (p + 2))), .int (nI p)], M1) _
            refine ps_st (S' := (276, [(0, .ref m0), (2, .int 2), (3, .int (nI x)), (4, .int (nI (by2 f p1))), (5, .int (nI p)), (6, .int (nI s3)), (7, .int (nI i)), (8, .int (nI (by4 f (p + 2))))], [.int ((nI p) + (nI (6 + by4 f (p + 2))))], M1)) rfl rfl rfl ?_
            rw [nI_add1 (p := p) (k := 6 + by4 f (p + 2)) (x := (nI (6 + by4 f (p + 2)))) rfl (by omega)]
            rw [show nI (p + (6 + by4 f (p + 2))) = nI (p + 6 + by4 f (p + 2)) from congrArg nI (by omega)]
            show pl _ _ _ (_, [(0, .ref m0), (2, .int 2), (3, .int (nI x)), (4, .int (nI (by2 f p1))), (5, .int (nI p)), (6, .int (nI s3)), (7, .int (nI i)), (8, .int (nI (by4 f (p + 2))))], [.int (nI (p + 6 + by4 f (p + 2)))], M1) _
            refine ps_st (S' := (278, [(5, .int (nI (p + 6 + by4 f (p + 2)))), (0, .ref m0), (2, .int 2), (3, .int (nI x)), (4, .int (nI (by2 f p1))), (6, .int (nI s3)), (7, .int (nI i)), (8, .int (nI (by4 f (p + 2))))], [], M1)) rfl rfl rfl ?_
            refine ps_st (S' := (281, [(7, .int ((nI i) + 1)), (5, .int (nI (p + 6 + by4 f (p + 2)))), (0, .ref m0), (2, .int 2), (3, .int (nI x)), (4, .int (nI (by2 f p1))), (6, .int (nI s3)), (8, .int (nI (by4 f (p + 2))))], [], M1)) rfl rfl rfl ?_
            rw [nI_add1 (p := i) (k := 1) (x := 1) rfl (by omega)]
            show pl _ _ _ (_, [(7, .int (nI (i + 1))), (5, .int (nI (p + 6 + by4 f (p + 2)))), (0, .ref m0), (2, .int 2), (3, .int (nI x)), (4, .int (nI (by2 f p1))), (6, .int (nI s3)), (8, .int (nI (by4 f (p + 2))))], [], M1) _
            refine ps_st (S' := (18, [(0, .ref m0), (2, .int 2), (3, .int (nI x)), (4, .int (nI (by2 f p1))), (5, .int (nI (p + 6 + by4 f (p + 2)))), (6, .int (nI s3)), (7, .int (nI (i + 1)))], [], M1)) rfl rfl rfl ?_
            exact ih.1 (i + 1) (p + 6 + by4 f (p + 2)) (s2) (s3) (h) M1 I1 R1 hR1 hEI1 hER1 hl51 hl52 hl53 hF1 hY1 hP1 hK1 hX1 hC1 (by omega) (hl) (hb) (hq7) (by
                rw [← hs9, maS_u (i := i) (p := p) (s := s2) hi0 h1 hsm])
          · have c_142 : ¬ ((gI (kb mj 2 (tX f n E (by2 f p)) k)) < 0) := of_decide_eq_false c_142
            rw [ek] at c_142
            obtain ⟨w, hw1, hw2, hsm⟩ := mk_y c_142
            have hws : sb s3 w = sb s2 (w + 1) := by rcases hw2 with rfl | rfl; exact hb.1; exact hb.2.1
            have hb2 := sb_lt s3 w
            rw [show gI (kb mj 2 (tX f n E (by2 f p)) k) = nI w by rw [ek, hw1]; rfl]
            show pl _ _ _ (145, [(0, .ref m0), (2, .int 2), (3, .int (nI x)), (4, .int (nI (by2 f p1))), (5, .int (nI p)), (6, .int (nI s3)), (7, .int (nI i)), (8, .int (nI (by4 f (p + 2)))), (9, .int (nI t)), (10, .int (nI w)), (11, .int (nI k))], [], M1) _
            refine ps_st (S' := (146, [(0, .ref m0), (2, .int 2), (3, .int (nI x)), (4, .int (nI (by2 f p1))), (5, .int (nI p)), (6, .int (nI s3)), (7, .int (nI i)), (8, .int (nI (by4 f (p + 2)))), (9, .int (nI t)), (10, .int (nI w)), (11, .int (nI k))], [.int 2], M1)) rfl rfl rfl ?_
            refine ps_st (S' := (147, [(0, .ref m0), (2, .int 2), (3, .int (nI x)), (4, .int (nI (by2 f p1))), (5, .int (nI p)), (6, .int (nI s3)), (7, .int (nI i)), (8, .int (nI (by4 f (p + 2)))), (9, .int (nI t)), (10, .int (nI w)), (11, .int (nI k))], [.int 1, .int 2], M1)) rfl rfl rfl ?_
            refine ps_if2 (S1 := (160, [(0, .ref m0), (2, .int 2), (3, .int (nI x)), (4, .int (nI (by2 f p1))), (5, .int (nI p)), (6, .int (nI s3)), (7, .int (nI i)), (8, .int (nI (by4 f (p + 2)))), (10, .int (nI w))], [], M1)) (S2 := (150, [(0, .ref m0), (2, .int 2), (3, .int (nI x)), (4, .int (nI (by2 f p1))), (5, .int (nI p)), (6, .int (nI s3)), (7, .int (nI i)), (8, .int (nI (by4 f (p + 2)))), (9, .int (nI t)), (10, .int (nI w)), (11, .int (nI k))], [], M1)) rfl rfl rfl (fun c_147 => ?_) (fun c_147 => ?_)
            rotate_left
            · exact absurd (by decide) (of_decide_eq_false c_147)
            refine ps_st (S' := (161, [(0, .ref m0), (2, .int 2), (3, .int (nI x)), (4, .int (nI (by2 f p1))), (5, .int (nI p)), (6, .int (nI s3)), (7, .int (nI i)), (8, .int (nI (by4 f (p + 2)))), (10, .int (nI w))], [.int 2], M1)) rfl rfl rfl ?_
            refine ps_st (S' := (162, [(0, .ref m0), (2, .int 2), (3, .int (nI x)), (4, .int (nI (by2 f p1))), (5, .int (nI p)), (6, .int (nI s3)), (7, .int (nI i)), (8, .int (nI (by4 f (p + 2)))), (10, .int (nI w))], [.int 2, .int 2], M1)) rfl rfl rfl ?_
            refine ps_if2 (S1 := (175, [(0, .ref m0), (2, .int 2), (3, .int (nI x)), (4, .int (nI (by2 f p1))), (5, .int (nI p)), (6, .int (nI s3)), (7, .int (nI i)), (8, .int (nI (by4 f (p + 2)))), (10, .int (nI w))], [], M1)) (S2 := (165, [(0, .ref m0), (2, .int 2), (3, .int (nI x)), (4, .int (nI (by2 f p1))), (5, .int (nI p)), (6, .int (nI s3)), (7, .int (nI i)), (8, .int (nI (by4 f (p + 2)))), (10, .int (nI w))], [], M1)) rfl rfl rfl (fun c_162 => ?_) (fun c_162 => ?_)
            · exact absurd (of_decide_eq_true c_162) (by decide)
            refine ps_st (S' := (166, [(0, .ref m0), (2, .int 2), (3, .int (nI x)), (4, .int (nI (by2 f p1))), (5, .int (nI p)), (6, .int (nI s3)), (7, .int (nI i)), (8, .int (nI (by4 f (p + 2)))), (10, .int (nI w))], [.ref m0], M1)) rfl rfl rfl ?_
            refine pr_ref (j := 43) (S' := (169, [(0, .ref m0), (2, .int 2), (3, .int (nI x)), (4, .int (nI (by2 f p1))), (5, .int (nI p)), (6, .int (nI s3)), (7, .int (nI i)), (8, .int (nI (by4 f (p + 2)))), (10, .int (nI w))], [.ref (q 43)], M1)) rfl hR1 rfl rfl ?_
            refine ps_st (S' := (170, [(0, .ref m0), (2, .int 2), (3, .int (nI x)), (4, .int (nI (by2 f p1))), (5, .int (nI p)), (6, .int (nI s3)), (7, .int (nI i)), (8, .int (nI (by4 f (p + 2)))), (10, .int (nI w))], [.int (nI x), .ref (q 43)], M1)) rfl rfl rfl ?_
            refine ps_st (S' := (171, [(0, .ref m0), (2, .int 2), (3, .int (nI x)), (4, .int (nI (by2 f p1))), (5, .int (nI p)), (6, .int (nI s3)), (7, .int (nI i)), (8, .int (nI (by4 f (p + 2)))), (10, .int (nI w))], [.int (nI x), .ref (q 43), .int (nI x), .ref (q 43)], M1)) rfl rfl rfl ?_
            refine pr_ldu (a := 43) rfl hR1 rfl (fun y_171 i0_171 i1_171 hy_171 => ?_)
            show pl _ _ _ (172, [(0, .ref m0), (2, .int 2), (3, .int (nI x)), (4, .int (nI (by2 f p1))), (5, .int (nI p)), (6, .int (nI s3)), (7, .int (nI i)), (8, .int (nI (by4 f (p + 2)))), (10, .int (nI w))], [.int y_171, .int (nI x), .ref (q 43)], M1) _
            rw [nI_toNat (by omega)] at i1_171 hy_171
            refine ps_st (S' := (173, [(0, .ref m0), (2, .int 2), (3, .int (nI x)), (4, .int (nI (by2 f p1))), (5, .int (nI p)), (6, .int (nI s3)), (7, .int (nI i)), (8, .int (nI (by4 f (p + 2)))), (10, .int (nI w))], [.int 1, .int y_171, .int (nI x), .ref (q 43)], M1)) rfl rfl rfl ?_
            refine ps_st (S' := (174, [(0, .ref m0), (2, .int 2), (3, .int (nI x)), (4, .int (nI (by2 f p1))), (5, .int (nI p)), (6, .int (nI s3)), (7, .int (nI i)), (8, .int (nI (by4 f (p + 2)))), (10, .int (nI w))], [.int (y_171 + 1), .int (nI x), .ref (q 43)], M1)) rfl rfl rfl ?_
            refine pr_st (a := 43) (j := x) rfl hR1 rfl (by omega) (fun M38 R39 i1_174 hR40 hS41 => ?_)
            have hF_42 := hF1.mono (fun _ _ => rfl) (rRx hS41 (by decide))
            have hY_43 := hY1.mono (fun _ _ => rfl) (rRx hS41 (by decide))
            have hP_44 := hP1.mono (fun _ _ => rfl) (rRx hS41 (by decide))
            have hK_45 := hK1.mono (fun _ _ => rfl) (rRx hS41 (by decide))
            have hX_46 := hX1.mono (fun _ _ => rfl) (rRx hS41 (by decide))
            have hC_47 := hC1.mono (fun _ _ => rfl) (rRx hS41 (by decide))
            have hER48 := hER1.st hS41 (by decide)
            show pl _ _ _ (175, [(0, .ref m0), (2, .int 2), (3, .int (nI x)), (4, .int (nI (by2 f p1))), (5, .int (nI p)), (6, .int (nI s3)), (7, .int (nI i)), (8, .int (nI (by4 f (p + 2)))), (10, .int (nI w))], [], M38) _
            refine ps_st (S' := (176, [(0, .ref m0), (2, .int 2), (3, .int (nI x)), (4, .int (nI (by2 f p1))), (5, .int (nI p)), (6, .int (nI s3)), (7, .int (nI i)), (8, .int (nI (by4 f (p + 2)))), (10, .int (nI w))], [.int 2], M38)) rfl rfl rfl ?_
            refine ps_st (S' := (177, [(0, .ref m0), (2, .int 2), (3, .int (nI x)), (4, .int (nI (by2 f p1))), (5, .int (nI p)), (6, .int (nI s3)), (7, .int (nI i)), (8, .int (nI (by4 f (p + 2)))), (10, .int (nI w))], [.int 4, .int 2], M38)) rfl rfl rfl ?_
            refine ps_if2 (S1 := (190, [(0, .ref m0), (2, .int 2), (3, .int (nI x)), (4, .int (nI (by2 f p1))), (5, .int (nI p)), (6, .int (nI s3)), (7, .int (nI i)), (8, .int (nI (by4 f (p + 2)))), (10, .int (nI w))], [], M38)) (S2 := (180, [(0, .ref m0), (2, .int 2), (3, .int (nI x)), (4, .int (nI (by2 f p1))), (5, .int (nI p)), (6, .int (nI s3)), (7, .int (nI i)), (8, .int (nI (by4 f (p + 2)))), (10, .int (nI w))], [], M38)) rfl rfl rfl (fun c_177 => ?_) (fun c_177 => ?_)
            rotate_left
            · exact absurd (by decide) (of_decide_eq_false c_177)
            refine ps_st (S' := (192, [(0, .ref m0), (2, .int 2), (3, .int (nI x)), (4, .int (nI (by2 f p1))), (5, .int (nI p)), (6, .int (nI s3)), (7, .int (nI i)), (8, .int (nI (by4 f (p + 2)))), (10, .int (nI w))], [.int (nI s3)], M38)) rfl rfl rfl ?_
            refine ps_st (S' := (194, [(0, .ref m0), (2, .int 2), (3, .int (nI x)), (4, .int (nI (by2 f p1))), (5, .int (nI p)), (6, .int (nI s3)), (7, .int (nI i)), (8, .int (nI (by4 f (p + 2)))), (10, .int (nI w))], [.int (nI w), .int (nI s3)], M38)) rfl rfl rfl ?_
            refine ps_st (S' := (195, [(0, .ref m0), (2, .int 2), (3, .int (nI x)), (4, .int (nI (by2 f p1))), (5, .int (nI p)), (6, .int (nI s3)), (7, .int (nI i)), (8, .int (nI (by4 f (p + 2)))), (10, .int (nI w))], [.int ((nI s3) >>> ((nI w) &&& 31))], M38)) rfl rfl rfl ?_
            refine ps_st (S' := (196, [(0, .ref m0), (2, .int 2), (3, .int (nI x)), (4, .int (nI (by2 f p1))), (5, .int (nI p)), (6, .int (nI s3)), (7, .int (nI i)), (8, .int (nI (by4 f (p + 2)))), (10, .int (nI w))], [.int 1, .int ((nI s3) >>> ((nI w) &&& 31))], M38)) rfl rfl rfl ?_
            refine ps_st (S' := (197, [(0, .ref m0), (2, .int 2), (3, .int (nI x)), (4, .int (nI (by2 f p1))), (5, .int (nI p)), (6, .int (nI s3)), (7, .int (nI i)), (8, .int (nI (by4 f (p + 2)))), (10, .int (nI w))], [.int (((nI s3) >>> ((nI w) &&& 31)) &&& 1)], M38)) rfl rfl rfl ?_
            rw [shr_k s3 (by omega) w (by omega)]
            show pl _ _ _ (_, [(0, .ref m0), (2, .int 2), (3, .int (nI x)), (4, .int (nI (by2 f p1))), (5, .int (nI p)), (6, .int (nI s3)), (7, .int (nI i)), (8, .int (nI (by4 f (p + 2)))), (10, .int (nI w))], [.int (nI (sb s3 w))], M38) _
            refine ps_st (S' := (198, [(0, .ref m0), (2, .int 2), (3, .int (nI x)), (4, .int (nI (by2 f p1))), (5, .int (nI p)), (6, .int (nI s3)), (7, .int (nI i)), (8, .int (nI (by4 f (p + 2)))), (10, .int (nI w))], [.int 1, .int (nI (sb s3 w))], M38)) rfl rfl rfl ?_
            refine ps_if2 (S1 := (212, [(0, .ref m0), (2, .int 2), (3, .int (nI x)), (4, .int (nI (by2 f p1))), (5, .int (nI p)), (6, .int (nI s3)), (7, .int (nI i)), (8, .int (nI (by4 f (p + 2)))), (10, .int (nI w))], [], M38)) (S2 := (201, [(0, .ref m0), (2, .int 2), (3, .int (nI x)), (4, .int (nI (by2 f p1))), (5, .int (nI p)), (6, .int (nI s3)), (7, .int (nI i)), (8, .int (nI (by4 f (p + 2)))), (10, .int (nI w))], [], M38)) rfl rfl rfl (fun c_198 => ?_) (fun c_198 => ?_)
            · have c_198 : ¬ (nI (sb s3 w)) = 1 := of_decide_eq_true c_198
              have n_198 : ¬ (sb s3 w = 1) := fun h9 => c_198 ((eq_nI (p := sb s3 w) (n := 1) (Nat.lt_trans (sb_lt _ _) (by decide)) (by decide)).mpr h9)
              refine ps_st (S' := (213, [(0, .ref m0), (2, .int 2), (3, .int (nI x)), (4, .int (nI (by2 f p1))), (5, .int (nI p)), (6, .int (nI s3)), (7, .int (nI i)), (8, .int (nI (by4 f (p + 2)))), (10, .int (nI w))], [.ref m0], M38)) rfl rfl rfl ?_
              refine ps_st (S' := (215, [(0, .ref m0), (2, .int 2), (3, .int (nI x)), (4, .int (nI (by2 f p1))), (5, .int (nI p)), (6, .int (nI s3)), (7, .int (nI i)), (8, .int (nI (by4 f (p + 2)))), (10, .int (nI w))], [.int (nI w), .ref m0], M38)) rfl rfl rfl ?_
              refine ps_st (S' := (217, [(0, .ref m0), (2, .int 2), (3, .int (nI x)), (4, .int (nI (by2 f p1))), (5, .int (nI p)), (6, .int (nI s3)), (7, .int (nI i)), (8, .int (nI (by4 f (p + 2)))), (10, .int (nI w))], [.int (nI p), .int (nI w), .ref m0], M38)) rfl rfl rfl ?_
              refine ps_st (S' := (219, [(0, .ref m0), (2, .int 2), (3, .int (nI x)), (4, .int (nI (by2 f p1))), (5, .int (nI p)), (6, .int (nI s3)), (7, .int (nI i)), (8, .int (nI (by4 f (p + 2)))), (10, .int (nI w))], [.int (nI p), .int (nI p), .int (nI w), .ref m0], M38)) rfl rfl rfl ?_
              refine ps_st (S' := (221, [(0, .ref m0), (2, .int 2), (3, .int (nI x)), (4, .int (nI (by2 f p1))), (5, .int (nI p)), (6, .int (nI s3)), (7, .int (nI i)), (8, .int (nI (by4 f (p + 2)))), (10, .int (nI w))], [.int 6, .int (nI p), .int (nI p), .int (nI w), .ref m0], M38)) rfl rfl rfl ?_
              refine ps_st (S' := (222, [(0, .ref m0), (2, .int 2), (3, .int (nI x)), (4, .int (nI (by2 f p1))), (5, .int (nI p)), (6, .int (nI s3)), (7, .int (nI i)), (8, .int (nI (by4 f (p + 2)))), (10, .int (nI w))], [.int ((nI p) + 6), .int (nI p), .int (nI w), .ref m0], M38)) rfl rfl rfl ?_
              rw [nI_add1 (p := p) (k := 6) (x := 6) rfl (by omega)]
              show pl _ _ _ (_, [(0, .ref m0), (2, .int 2), (3, .int (nI x)), (4, .int (nI (by2 f p1))), (5, .int (nI p)), (6, .int (nI s3)), (7, .int (nI i)), (8, .int (nI (by4 f (p + 2)))), (10, .int (nI w))], [.int (nI (p + 6)), .int (nI p), .int (nI w), .ref m0], M38) _
              refine ps_st (S' := (224, [(0, .ref m0), (2, .int 2), (3, .int (nI x)), (4, .int (nI (by2 f p1))), (5, .int (nI p)), (6, .int (nI s3)), (7, .int (nI i)), (8, .int (nI (by4 f (p + 2)))), (10, .int (nI w))], [.int (nI p), .int (nI (p + 6)), .int (nI p), .int (nI w), .ref m0], M38)) rfl rfl rfl ?_
              refine ps_st (S' := (226, [(0, .ref m0), (2, .int 2), (3, .int (nI x)), (4, .int (nI (by2 f p1))), (5, .int (nI p)), (6, .int (nI s3)), (7, .int (nI i)), (8, .int (nI (by4 f (p + 2)))), (10, .int (nI w))], [.int 6, .int (nI p), .int (nI (p + 6)), .int (nI p), .int (nI w), .ref m0], M38)) rfl rfl rfl ?_
              refine ps_st (S' := (227, [(0, .ref m0), (2, .int 2), (3, .int (nI x)), (4, .int (nI (by2 f p1))), (5, .int (nI p)), (6, .int (nI s3)), (7, .int (nI i)), (8, .int (nI (by4 f (p + 2)))), (10, .int (nI w))], [.int ((nI p) + 6), .int (nI (p + 6)), .int (nI p), .int (nI w), .ref m0], M38)) rfl rfl rfl ?_
              rw [nI_add1 (p := p) (k := 6) (x := 6) rfl (by omega)]
              show pl _ _ _ (_, [(0, .ref m0), (2, .int 2), (3, .int (nI x)), (4, .int (nI (by2 f p1))), (5, .int (nI p)), (6, .int (nI s3)), (7, .int (nI i)), (8, .int (nI (by4 f (p + 2)))), (10, .int (nI w))], [.int (nI (p + 6)), .int (nI (p + 6)), .int (nI p), .int (nI w), .ref m0], M38) _
              refine ps_st (S' := (229, [(0, .ref m0), (2, .int 2), (3, .int (nI x)), (4, .int (nI (by2 f p1))), (5, .int (nI p)), (6, .int (nI s3)), (7, .int (nI i)), (8, .int (nI (by4 f (p + 2)))), (10, .int (nI w))], [.int (nI (by4 f (p + 2))), .int (nI (p + 6)), .int (nI (p + 6)), .int (nI p), .int (nI w), .ref m0], M38)) rfl rfl rfl ?_
              refine ps_st (S' := (230, [(0, .ref m0), (2, .int 2), (3, .int (nI x)), (4, .int (nI (by2 f p1))), (5, .int (nI p)), (6, .int (nI s3)), (7, .int (nI i)), (8, .int (nI (by4 f (p + 2)))), (10, .int (nI w))], [.int ((nI (p + 6)) + (nI (by4 f (p + 2)))), .int (nI (p + 6)), .int (nI p), .int (nI w), .ref m0], M38)) rfl rfl rfl ?_
              rw [nI_add1 (p := p + 6) (k := by4 f (p + 2)) (x := (nI (by4 f (p + 2)))) rfl (by omega)]
              show pl _ _ _ (_, [(0, .ref m0), (2, .int 2), (3, .int (nI x)), (4, .int (nI (by2 f p1))), (5, .int (nI p)), (6, .int (nI s3)), (7, .int (nI i)), (8, .int (nI (by4 f (p + 2)))), (10, .int (nI w))], [.int (nI (p + 6 + by4 f (p + 2))), .int (nI (p + 6)), .int (nI p), .int (nI w), .ref m0], M38) _
              refine ps_st (S' := (231, [(0, .ref m0), (2, .int 2), (3, .int (nI x)), (4, .int (nI (by2 f p1))), (5, .int (nI p)), (6, .int (nI s3)), (7, .int (nI i)), (8, .int (nI (by4 f (p + 2)))), (10, .int (nI w))], [.int (nI x), .int (nI (p + 6 + by4 f (p + 2))), .int (nI (p + 6)), .int (nI p), .int (nI w), .ref m0], M38)) rfl rfl rfl ?_
              refine ps_st (S' := (233, [(0, .ref m0), (2, .int 2), (3, .int (nI x)), (4, .int (nI (by2 f p1))), (5, .int (nI p)), (6, .int (nI s3)), (7, .int (nI i)), (8, .int (nI (by4 f (p + 2)))), (10, .int (nI w))], [.int (nI s3), .int (nI x), .int (nI (p + 6 + by4 f (p + 2))), .int (nI (p + 6)), .int (nI p), .int (nI w), .ref m0], M38)) rfl rfl rfl ?_
              have hs0 : sb s2 (w + 1) = 0 := by omega
              refine pl_call (a := [.ref m0, .int (nI w), .int (nI p), .int (nI (p + 6)), .int (nI (p + 6 + by4 f (p + 2))), .int (nI x), .int (nI s3)]) (rest := []) rfl rfl rfl (rd_attrM (n := n) (f := f) (tx := tx) (cN := cN) (A := A) (N := N) (mj := mj) (E := E) (p := p) (e := (p + 6 + by4 f (p + 2))) (x := x) (s3 := s3) (w := w) (fl := fl) (ds := ds) (wa := wa) (h := h) (l := l) (t := (nI p)) hR40 hl51 hl52 hl53 hF_42 hY_43 hP_44 hK_45 hX_46 hC_47 (hEP) (hN) (hmj) (⟨by omega, by omega⟩) (hl) (hx) (hdt) (hmt) (hf6) (hwa) (hw2)) (fun v49 M50 q51 => ?_)
              rcases q51 with q51 | q51 | q51 | q51
              · skip
                obtain ⟨I52, R53, q233_s, rfl, hR54, hI55, hX56⟩ := q51
                have hi57 := (hI55 51 (by decide)).trans hl51
                have hi58 := (hI55 52 (by decide)).trans hl52
                have hi59 := (hI55 53 (by decide)).trans hl53
                have hF_60 := hF_42.mono (cIx hI55 (by decide)) (cRx hX56 (by decide))
                have hY_61 := hY_43.mono (cIx hI55 (by decide)) (cRx hX56 (by decide))
                have hP_62 := hP_44.mono (cIx hI55 (by decide)) (cRx hX56 (by decide))
                have hK_63 := hK_45.mono (cIx hI55 (by decide)) (cRx hX56 (by decide))
                have hX_64 := hX_46.mono (cIx hI55 (by decide)) (cRx hX56 (by decide))
                have hEI65 := hEI1.tr hI55 (by decide)
                have hER66 := hER48.tr hX56 (by decide)
                show pl _ _ _ (236, [(0, .ref m0), (2, .int 2), (3, .int (nI x)), (4, .int (nI (by2 f p1))), (5, .int (nI p)), (6, .int (nI s3)), (7, .int (nI i)), (8, .int (nI (by4 f (p + 2)))), (10, .int (nI w))], [.int 30], M50) _
                refine ps_st (S' := (238, [(11, .int 30), (0, .ref m0), (2, .int 2), (3, .int (nI x)), (4, .int (nI (by2 f p1))), (5, .int (nI p)), (6, .int (nI s3)), (7, .int (nI i)), (8, .int (nI (by4 f (p + 2)))), (10, .int (nI w))], [], M50)) rfl rfl rfl ?_
                refine ps_st (S' := (240, [(11, .int 30), (0, .ref m0), (2, .int 2), (3, .int (nI x)), (4, .int (nI (by2 f p1))), (5, .int (nI p)), (6, .int (nI s3)), (7, .int (nI i)), (8, .int (nI (by4 f (p + 2)))), (10, .int (nI w))], [.int (nI s3)], M50)) rfl rfl rfl ?_
                refine ps_st (S' := (241, [(11, .int 30), (0, .ref m0), (2, .int 2), (3, .int (nI x)), (4, .int (nI (by2 f p1))), (5, .int (nI p)), (6, .int (nI s3)), (7, .int (nI i)), (8, .int (nI (by4 f (p + 2)))), (10, .int (nI w))], [.int 1, .int (nI s3)], M50)) rfl rfl rfl ?_
                refine ps_st (S' := (243, [(11, .int 30), (0, .ref m0), (2, .int 2), (3, .int (nI x)), (4, .int (nI (by2 f p1))), (5, .int (nI p)), (6, .int (nI s3)), (7, .int (nI i)), (8, .int (nI (by4 f (p + 2)))), (10, .int (nI w))], [.int (nI w), .int 1, .int (nI s3)], M50)) rfl rfl rfl ?_
                refine ps_st (S' := (244, [(11, .int 30), (0, .ref m0), (2, .int 2), (3, .int (nI x)), (4, .int (nI (by2 f p1))), (5, .int (nI p)), (6, .int (nI s3)), (7, .int (nI i)), (8, .int (nI (by4 f (p + 2)))), (10, .int (nI w))], [.int (1 <<< ((nI w) &&& 31)), .int (nI s3)], M50)) rfl rfl rfl ?_
                refine ps_st (S' := (245, [(11, .int 30), (0, .ref m0), (2, .int 2), (3, .int (nI x)), (4, .int (nI (by2 f p1))), (5, .int (nI p)), (6, .int (nI s3)), (7, .int (nI i)), (8, .int (nI (by4 f (p + 2)))), (10, .int (nI w))], [.int ((nI s3) ||| (1 <<< ((nI w) &&& 31)))], M50)) rfl rfl rfl ?_
                rw [or_k s3 w (by omega)]
                show pl _ _ _ (_, [(11, .int 30), (0, .ref m0), (2, .int 2), (3, .int (nI x)), (4, .int (nI (by2 f p1))), (5, .int (nI p)), (6, .int (nI s3)), (7, .int (nI i)), (8, .int (nI (by4 f (p + 2)))), (10, .int (nI w))], [.int (nI (so s3 w))], M50) _
                refine ps_st (S' := (247, [(6, .int (nI (so s3 w))), (11, .int 30), (0, .ref m0), (2, .int 2), (3, .int (nI x)), (4, .int (nI (by2 f p1))), (5, .int (nI p)), (7, .int (nI i)), (8, .int (nI (by4 f (p + 2)))), (10, .int (nI w))], [], M50)) rfl rfl rfl ?_
                refine ps_st (S' := (249, [(6, .int (nI (so s3 w))), (11, .int 30), (0, .ref m0), (2, .int 2), (3, .int (nI x)), (4, .int (nI (by2 f p1))), (5, .int (nI p)), (7, .int (nI i)), (8, .int (nI (by4 f (p + 2)))), (10, .int (nI w))], [.int 30], M50)) rfl rfl rfl ?_
                refine ps_if (S1 := (261, [(0, .ref m0), (2, .int 2), (3, .int (nI x)), (4, .int (nI (by2 f p1))), (5, .int (nI p)), (6, .int (nI (so s3 w))), (7, .int (nI i)), (8, .int (nI (by4 f (p + 2)))), (11, .int 30)], [], M50)) (S2 := (252, [(6, .int (nI (so s3 w))), (11, .int 30), (0, .ref m0), (2, .int 2), (3, .int (nI x)), (4, .int (nI (by2 f p1))), (5, .int (nI p)), (7, .int (nI i)), (8, .int (nI (by4 f (p + 2)))), (10, .int (nI w))], [], M50)) rfl rfl rfl (fun c_249 => ?_) (fun c_249 => ?_)
                · exact absurd (of_decide_eq_true c_249) (by decide)
                refine ps_st (S' := (253, [(6, .int (nI (so s3 w))), (11, .int 30), (0, .ref m0), (2, .int 2), (3, .int (nI x)), (4, .int (nI (by2 f p1))), (5, .int (nI p)), (7, .int (nI i)), (8, .int (nI (by4 f (p + 2)))), (10, .int (nI w))], [.ref m0], M50)) rfl rfl rfl ?_
                refine ps_st (S' := (255, [(6, .int (nI (so s3 w))), (11, .int 30), (0, .ref m0), (2, .int 2), (3, .int (nI x)), (4, .int (nI (by2 f p1))), (5, .int (nI p)), (7, .int (nI i)), (8, .int (nI (by4 f (p + 2)))), (10, .int (nI w))], [.int 30, .ref m0], M50)) rfl rfl rfl ?_
                refine ps_st (S' := (257, [(6, .int (nI (so s3 w))), (11, .int 30), (0, .ref m0), (2, .int 2), (3, .int (nI x)), (4, .int (nI (by2 f p1))), (5, .int (nI p)), (7, .int (nI i)), (8, .int (nI (by4 f (p + 2)))), (10, .int (nI w))], [.int (nI p), .int 30, .ref m0], M50)) rfl rfl rfl ?_
                refine pl_call (a := [.ref m0, .int 30, .int (nI p)]) (rest := []) rfl rfl rfl (rd_wrong (x1 := 30) (x2 := (nI p)) hR54) (fun v67 M68 q69 => ?_)
                obtain ⟨I70, R71, rfl, hR72, hI73, hX74, hi75, hi76⟩ := q69
                have hi77 := (hI73 51 (by decide)).trans hi57
                have hi78 := (hI73 52 (by decide)).trans hi58
                have hi79 := (hI73 53 (by decide)).trans hi59
                have hF_80 := hF_60.mono (cIx hI73 (by decide)) (cRx hX74 (by decide))
                have hY_81 := hY_61.mono (cIx hI73 (by decide)) (cRx hX74 (by decide))
                have hP_82 := hP_62.mono (cIx hI73 (by decide)) (cRx hX74 (by decide))
                have hK_83 := hK_63.mono (cIx hI73 (by decide)) (cRx hX74 (by decide))
                have hX_84 := hX_64.mono (cIx hI73 (by decide)) (cRx hX74 (by decide))
                have hEI85 := hEI65.tr hI73 (by decide)
                have hER86 := hER66.tr hX74 (by decide)
                show pl _ _ _ (260, [(6, .int (nI (so s3 w))), (11, .int 30), (0, .ref m0), (2, .int 2), (3, .int (nI x)), (4, .int (nI (by2 f p1))), (5, .int (nI p)), (7, .int (nI i)), (8, .int (nI (by4 f (p + 2)))), (10, .int (nI w))], [.int 0], M68) _
                refine ps_st (S' := (261, [(0, .ref m0), (2, .int 2), (3, .int (nI x)), (4, .int (nI (by2 f p1))), (5, .int (nI p)), (6, .int (nI (so s3 w))), (7, .int (nI i)), (8, .int (nI (by4 f (p + 2)))), (11, .int 30)], [], M68)) rfl rfl rfl ?_
                refine ps_st (S' := (263, [(0, .ref m0), (2, .int 2), (3, .int (nI x)), (4, .int (nI (by2 f p1))), (5, .int (nI p)), (6, .int (nI (so s3 w))), (7, .int (nI i)), (8, .int (nI (by4 f (p + 2)))), (11, .int 30)], [.int 30], M68)) rfl rfl rfl ?_
                refine ps_if (S1 := (268, [(0, .ref m0), (2, .int 2), (3, .int (nI x)), (4, .int (nI (by2 f p1))), (5, .int (nI p)), (6, .int (nI (so s3 w))), (7, .int (nI i)), (8, .int (nI (by4 f (p + 2))))], [], M68)) (S2 := (266, [(0, .ref m0), (2, .int 2), (3, .int (nI x)), (4, .int (nI (by2 f p1))), (5, .int (nI p)), (6, .int (nI (so s3 w))), (7, .int (nI i)), (8, .int (nI (by4 f (p + 2)))), (11, .int 30)], [], M68)) rfl rfl rfl (fun c_263 => ?_) (fun c_263 => ?_)
                · exact absurd (of_decide_eq_true c_263) (by decide)
                refine ps_st (S' := (267, [(0, .ref m0), (2, .int 2), (3, .int (nI x)), (4, .int (nI (by2 f p1))), (5, .int (nI p)), (6, .int (nI (so s3 w))), (7, .int (nI i)), (8, .int (nI (by4 f (p + 2)))), (11, .int 30)], [.int (-1)], M68)) rfl rfl rfl ?_
                exact ps_ret rfl rfl (Or.inl ⟨(30, p), I70, R71, by
                    rw [← hs9, maS_30 (i := i) (p := p) (s := s2) hi0 h1 hsm hs0 q233_s], rfl, hR72, hEI85, hER86, hi75, hi76⟩)
              · skip
                obtain ⟨r87, I88, R89, q233_s, q233_b, q233_l, rfl, hR90, hI91, hX92⟩ := q51
                have hi93 := (hI91 51 (by decide)).trans hl51
                have hi94 := (hI91 52 (by decide)).trans hl52
                have hi95 := (hI91 53 (by decide)).trans hl53
                have hF_96 := hF_42.mono (cIx hI91 (by decide)) (cRx hX92 (by decide))
                have hY_97 := hY_43.mono (cIx hI91 (by decide)) (cRx hX92 (by decide))
                have hP_98 := hP_44.mono (cIx hI91 (by decide)) (cRx hX92 (by decide))
                have hK_99 := hK_45.mono (cIx hI91 (by decide)) (cRx hX92 (by decide))
                have hX_100 := hX_46.mono (cIx hI91 (by decide)) (cRx hX92 (by decide))
                have hEI101 := hEI1.tr hI91 (by decide)
                have hER102 := hER48.tr hX92 (by decide)
                show pl _ _ _ (236, [(0, .ref m0), (2, .int 2), (3, .int (nI x)), (4, .int (nI (by2 f p1))), (5, .int (nI p)), (6, .int (nI s3)), (7, .int (nI i)), (8, .int (nI (by4 f (p + 2)))), (10, .int (nI w))], [.int (nI r87)], M50) _
                refine ps_st (S' := (238, [(11, .int (nI r87)), (0, .ref m0), (2, .int 2), (3, .int (nI x)), (4, .int (nI (by2 f p1))), (5, .int (nI p)), (6, .int (nI s3)), (7, .int (nI i)), (8, .int (nI (by4 f (p + 2)))), (10, .int (nI w))], [], M50)) rfl rfl rfl ?_
                refine ps_st (S' := (240, [(11, .int (nI r87)), (0, .ref m0), (2, .int 2), (3, .int (nI x)), (4, .int (nI (by2 f p1))), (5, .int (nI p)), (6, .int (nI s3)), (7, .int (nI i)), (8, .int (nI (by4 f (p + 2)))), (10, .int (nI w))], [.int (nI s3)], M50)) rfl rfl rfl ?_
                refine ps_st (S' := (241, [(11, .int (nI r87)), (0, .ref m0), (2, .int 2), (3, .int (nI x)), (4, .int (nI (by2 f p1))), (5, .int (nI p)), (6, .int (nI s3)), (7, .int (nI i)), (8, .int (nI (by4 f (p + 2)))), (10, .int (nI w))], [.int 1, .int (nI s3)], M50)) rfl rfl rfl ?_
                refine ps_st (S' := (243, [(11, .int (nI r87)), (0, .ref m0), (2, .int 2), (3, .int (nI x)), (4, .int (nI (by2 f p1))), (5, .int (nI p)), (6, .int (nI s3)), (7, .int (nI i)), (8, .int (nI (by4 f (p + 2)))), (10, .int (nI w))], [.int (nI w), .int 1, .int (nI s3)], M50)) rfl rfl rfl ?_
                refine ps_st (S' := (244, [(11, .int (nI r87)), (0, .ref m0), (2, .int 2), (3, .int (nI x)), (4, .int (nI (by2 f p1))), (5, .int (nI p)), (6, .int (nI s3)), (7, .int (nI i)), (8, .int (nI (by4 f (p + 2)))), (10, .int (nI w))], [.int (1 <<< ((nI w) &&& 31)), .int (nI s3)], M50)) rfl rfl rfl ?_
                refine ps_st (S' := (245, [(11, .int (nI r87)), (0, .ref m0), (2, .int 2), (3, .int (nI x)), (4, .int (nI (by2 f p1))), (5, .int (nI p)), (6, .int (nI s3)), (7, .int (nI i)), (8, .int (nI (by4 f (p + 2)))), (10, .int (nI w))], [.int ((nI s3) ||| (1 <<< ((nI w) &&& 31)))], M50)) rfl rfl rfl ?_
                rw [or_k s3 w (by omega)]
                show pl _ _ _ (_, [(11, .int (nI r87)), (0, .ref m0), (2, .int 2), (3, .int (nI x)), (4, .int (nI (by2 f p1))), (5, .int (nI p)), (6, .int (nI s3)), (7, .int (nI i)), (8, .int (nI (by4 f (p + 2)))), (10, .int (nI w))], [.int (nI (so s3 w))], M50) _
                refine ps_st (S' := (247, [(6, .int (nI (so s3 w))), (11, .int (nI r87)), (0, .ref m0), (2, .int 2), (3, .int (nI x)), (4, .int (nI (by2 f p1))), (5, .int (nI p)), (7, .int (nI i)), (8, .int (nI (by4 f (p + 2)))), (10, .int (nI w))], [], M50)) rfl rfl rfl ?_
                refine ps_st (S' := (249, [(6, .int (nI (so s3 w))), (11, .int (nI r87)), (0, .ref m0), (2, .int 2), (3, .int (nI x)), (4, .int (nI (by2 f p1))), (5, .int (nI p)), (7, .int (nI i)), (8, .int (nI (by4 f (p + 2)))), (10, .int (nI w))], [.int (nI r87)], M50)) rfl rfl rfl ?_
                refine ps_if (S1 := (261, [(0, .ref m0), (2, .int 2), (3, .int (nI x)), (4, .int (nI (by2 f p1))), (5, .int (nI p)), (6, .int (nI (so s3 w))), (7, .int (nI i)), (8, .int (nI (by4 f (p + 2)))), (11, .int (nI r87))], [], M50)) (S2 := (252, [(6, .int (nI (so s3 w))), (11, .int (nI r87)), (0, .ref m0), (2, .int 2), (3, .int (nI x)), (4, .int (nI (by2 f p1))), (5, .int (nI p)), (7, .int (nI i)), (8, .int (nI (by4 f (p + 2)))), (10, .int (nI w))], [], M50)) rfl rfl rfl (fun c_249 => ?_) (fun c_249 => ?_)
                · exact absurd (of_decide_eq_true c_249) (show ¬ ((nI r87) ≤ 0) from fun h9 => absurd ((le_nI (p := r87) (n := 0) (by omega) (by decide)).mp h9) (by omega))
                refine ps_st (S' := (253, [(6, .int (nI (so s3 w))), (11, .int (nI r87)), (0, .ref m0), (2, .int 2), (3, .int (nI x)), (4, .int (nI (by2 f p1))), (5, .int (nI p)), (7, .int (nI i)), (8, .int (nI (by4 f (p + 2)))), (10, .int (nI w))], [.ref m0], M50)) rfl rfl rfl ?_
                refine ps_st (S' := (255, [(6, .int (nI (so s3 w))), (11, .int (nI r87)), (0, .ref m0), (2, .int 2), (3, .int (nI x)), (4, .int (nI (by2 f p1))), (5, .int (nI p)), (7, .int (nI i)), (8, .int (nI (by4 f (p + 2)))), (10, .int (nI w))], [.int (nI r87), .ref m0], M50)) rfl rfl rfl ?_
                refine ps_st (S' := (257, [(6, .int (nI (so s3 w))), (11, .int (nI r87)), (0, .ref m0), (2, .int 2), (3, .int (nI x)), (4, .int (nI (by2 f p1))), (5, .int (nI p)), (7, .int (nI i)), (8, .int (nI (by4 f (p + 2)))), (10, .int (nI w))], [.int (nI p), .int (nI r87), .ref m0], M50)) rfl rfl rfl ?_
                refine pl_call (a := [.ref m0, .int (nI r87), .int (nI p)]) (rest := []) rfl rfl rfl (rd_wrong (x1 := (nI r87)) (x2 := (nI p)) hR90) (fun v103 M104 q105 => ?_)
                obtain ⟨I106, R107, rfl, hR108, hI109, hX110, hi111, hi112⟩ := q105
                have hi113 := (hI109 51 (by decide)).trans hi93
                have hi114 := (hI109 52 (by decide)).trans hi94
                have hi115 := (hI109 53 (by decide)).trans hi95
                have hF_116 := hF_96.mono (cIx hI109 (by decide)) (cRx hX110 (by decide))
                have hY_117 := hY_97.mono (cIx hI109 (by decide)) (cRx hX110 (by decide))
                have hP_118 := hP_98.mono (cIx hI109 (by decide)) (cRx hX110 (by decide))
                have hK_119 := hK_99.mono (cIx hI109 (by decide)) (cRx hX110 (by decide))
                have hX_120 := hX_100.mono (cIx hI109 (by decide)) (cRx hX110 (by decide))
                have hEI121 := hEI101.tr hI109 (by decide)
                have hER122 := hER102.tr hX110 (by decide)
                show pl _ _ _ (260, [(6, .int (nI (so s3 w))), (11, .int (nI r87)), (0, .ref m0), (2, .int 2), (3, .int (nI x)), (4, .int (nI (by2 f p1))), (5, .int (nI p)), (7, .int (nI i)), (8, .int (nI (by4 f (p + 2)))), (10, .int (nI w))], [.int 0], M104) _
                refine ps_st (S' := (261, [(0, .ref m0), (2, .int 2), (3, .int (nI x)), (4, .int (nI (by2 f p1))), (5, .int (nI p)), (6, .int (nI (so s3 w))), (7, .int (nI i)), (8, .int (nI (by4 f (p + 2)))), (11, .int (nI r87))], [], M104)) rfl rfl rfl ?_
                refine ps_st (S' := (263, [(0, .ref m0), (2, .int 2), (3, .int (nI x)), (4, .int (nI (by2 f p1))), (5, .int (nI p)), (6, .int (nI (so s3 w))), (7, .int (nI i)), (8, .int (nI (by4 f (p + 2)))), (11, .int (nI r87))], [.int (nI r87)], M104)) rfl rfl rfl ?_
                refine ps_if (S1 := (268, [(0, .ref m0), (2, .int 2), (3, .int (nI x)), (4, .int (nI (by2 f p1))), (5, .int (nI p)), (6, .int (nI (so s3 w))), (7, .int (nI i)), (8, .int (nI (by4 f (p + 2))))], [], M104)) (S2 := (266, [(0, .ref m0), (2, .int 2), (3, .int (nI x)), (4, .int (nI (by2 f p1))), (5, .int (nI p)), (6, .int (nI (so s3 w))), (7, .int (nI i)), (8, .int (nI (by4 f (p + 2)))), (11, .int (nI r87))], [], M104)) rfl rfl rfl (fun c_263 => ?_) (fun c_263 => ?_)
                · exact absurd (of_decide_eq_true c_263) (show ¬ ((nI r87) = 0) from fun h9 => absurd ((eq_nI (p := r87) (n := 0) (by omega) (by decide)).mp h9) (by omega))
                refine ps_st (S' := (267, [(0, .ref m0), (2, .int 2), (3, .int (nI x)), (4, .int (nI (by2 f p1))), (5, .int (nI p)), (6, .int (nI (so s3 w))), (7, .int (nI i)), (8, .int (nI (by4 f (p + 2)))), (11, .int (nI r87))], [.int (-1)], M104)) rfl rfl rfl ?_
                exact ps_ret rfl rfl (Or.inl ⟨(r87, p), I106, R107, by
                    rw [← hs9, maS_kb (i := i) (p := p) (s := s2) hi0 h1 hsm hw2 hs0 hb.2.2 q233_s q233_b], rfl, hR108, hEI121, hER122, hi111, hi112⟩)
              · skip
                obtain ⟨e9123, I124, R125, q233_s, q233_b, rfl, hR126, hI127, hX128, hi129, hi130⟩ := q51
                have hi131 := (hI127 51 (by decide)).trans hl51
                have hi132 := (hI127 52 (by decide)).trans hl52
                have hi133 := (hI127 53 (by decide)).trans hl53
                have hF_134 := hF_42.mono (cIx hI127 (by decide)) (cRx hX128 (by decide))
                have hY_135 := hY_43.mono (cIx hI127 (by decide)) (cRx hX128 (by decide))
                have hP_136 := hP_44.mono (cIx hI127 (by decide)) (cRx hX128 (by decide))
                have hK_137 := hK_45.mono (cIx hI127 (by decide)) (cRx hX128 (by decide))
                have hX_138 := hX_46.mono (cIx hI127 (by decide)) (cRx hX128 (by decide))
                have hEI139 := hEI1.tr hI127 (by decide)
                have hER140 := hER48.tr hX128 (by decide)
                show pl _ _ _ (236, [(0, .ref m0), (2, .int 2), (3, .int (nI x)), (4, .int (nI (by2 f p1))), (5, .int (nI p)), (6, .int (nI s3)), (7, .int (nI i)), (8, .int (nI (by4 f (p + 2)))), (10, .int (nI w))], [.int (-1)], M50) _
                refine ps_st (S' := (238, [(11, .int (-1)), (0, .ref m0), (2, .int 2), (3, .int (nI x)), (4, .int (nI (by2 f p1))), (5, .int (nI p)), (6, .int (nI s3)), (7, .int (nI i)), (8, .int (nI (by4 f (p + 2)))), (10, .int (nI w))], [], M50)) rfl rfl rfl ?_
                refine ps_st (S' := (240, [(11, .int (-1)), (0, .ref m0), (2, .int 2), (3, .int (nI x)), (4, .int (nI (by2 f p1))), (5, .int (nI p)), (6, .int (nI s3)), (7, .int (nI i)), (8, .int (nI (by4 f (p + 2)))), (10, .int (nI w))], [.int (nI s3)], M50)) rfl rfl rfl ?_
                refine ps_st (S' := (241, [(11, .int (-1)), (0, .ref m0), (2, .int 2), (3, .int (nI x)), (4, .int (nI (by2 f p1))), (5, .int (nI p)), (6, .int (nI s3)), (7, .int (nI i)), (8, .int (nI (by4 f (p + 2)))), (10, .int (nI w))], [.int 1, .int (nI s3)], M50)) rfl rfl rfl ?_
                refine ps_st (S' := (243, [(11, .int (-1)), (0, .ref m0), (2, .int 2), (3, .int (nI x)), (4, .int (nI (by2 f p1))), (5, .int (nI p)), (6, .int (nI s3)), (7, .int (nI i)), (8, .int (nI (by4 f (p + 2)))), (10, .int (nI w))], [.int (nI w), .int 1, .int (nI s3)], M50)) rfl rfl rfl ?_
                refine ps_st (S' := (244, [(11, .int (-1)), (0, .ref m0), (2, .int 2), (3, .int (nI x)), (4, .int (nI (by2 f p1))), (5, .int (nI p)), (6, .int (nI s3)), (7, .int (nI i)), (8, .int (nI (by4 f (p + 2)))), (10, .int (nI w))], [.int (1 <<< ((nI w) &&& 31)), .int (nI s3)], M50)) rfl rfl rfl ?_
                refine ps_st (S' := (245, [(11, .int (-1)), (0, .ref m0), (2, .int 2), (3, .int (nI x)), (4, .int (nI (by2 f p1))), (5, .int (nI p)), (6, .int (nI s3)), (7, .int (nI i)), (8, .int (nI (by4 f (p + 2)))), (10, .int (nI w))], [.int ((nI s3) ||| (1 <<< ((nI w) &&& 31)))], M50)) rfl rfl rfl ?_
                rw [or_k s3 w (by omega)]
                show pl _ _ _ (_, [(11, .int (-1)), (0, .ref m0), (2, .int 2), (3, .int (nI x)), (4, .int (nI (by2 f p1))), (5, .int (nI p)), (6, .int (nI s3)), (7, .int (nI i)), (8, .int (nI (by4 f (p + 2)))), (10, .int (nI w))], [.int (nI (so s3 w))], M50) _
                refine ps_st (S' := (247, [(6, .int (nI (so s3 w))), (11, .int (-1)), (0, .ref m0), (2, .int 2), (3, .int (nI x)), (4, .int (nI (by2 f p1))), (5, .int (nI p)), (7, .int (nI i)), (8, .int (nI (by4 f (p + 2)))), (10, .int (nI w))], [], M50)) rfl rfl rfl ?_
                refine ps_st (S' := (249, [(6, .int (nI (so s3 w))), (11, .int (-1)), (0, .ref m0), (2, .int 2), (3, .int (nI x)), (4, .int (nI (by2 f p1))), (5, .int (nI p)), (7, .int (nI i)), (8, .int (nI (by4 f (p + 2)))), (10, .int (nI w))], [.int (-1)], M50)) rfl rfl rfl ?_
                refine ps_if (S1 := (261, [(0, .ref m0), (2, .int 2), (3, .int (nI x)), (4, .int (nI (by2 f p1))), (5, .int (nI p)), (6, .int (nI (so s3 w))), (7, .int (nI i)), (8, .int (nI (by4 f (p + 2)))), (11, .int (-1))], [], M50)) (S2 := (252, [(6, .int (nI (so s3 w))), (11, .int (-1)), (0, .ref m0), (2, .int 2), (3, .int (nI x)), (4, .int (nI (by2 f p1))), (5, .int (nI p)), (7, .int (nI i)), (8, .int (nI (by4 f (p + 2)))), (10, .int (nI w))], [], M50)) rfl rfl rfl (fun c_249 => ?_) (fun c_249 => ?_)
                rotate_left
                · exact absurd (by decide) (of_decide_eq_false c_249)
                refine ps_st (S' := (263, [(0, .ref m0), (2, .int 2), (3, .int (nI x)), (4, .int (nI (by2 f p1))), (5, .int (nI p)), (6, .int (nI (so s3 w))), (7, .int (nI i)), (8, .int (nI (by4 f (p + 2)))), (11, .int (-1))], [.int (-1)], M50)) rfl rfl rfl ?_
                refine ps_if (S1 := (268, [(0, .ref m0), (2, .int 2), (3, .int (nI x)), (4, .int (nI (by2 f p1))), (5, .int (nI p)), (6, .int (nI (so s3 w))), (7, .int (nI i)), (8, .int (nI (by4 f (p + 2))))], [], M50)) (S2 := (266, [(0, .ref m0), (2, .int 2), (3, .int (nI x)), (4, .int (nI (by2 f p1))), (5, .int (nI p)), (6, .int (nI (so s3 w))), (7, .int (nI i)), (8, .int (nI (by4 f (p + 2)))), (11, .int (-1))], [], M50)) rfl rfl rfl (fun c_263 => ?_) (fun c_263 => ?_)
                · exact absurd (of_decide_eq_true c_263) (by decide)
                refine ps_st (S' := (267, [(0, .ref m0), (2, .int 2), (3, .int (nI x)), (4, .int (nI (by2 f p1))), (5, .int (nI p)), (6, .int (nI (so s3 w))), (7, .int (nI i)), (8, .int (nI (by4 f (p + 2)))), (11, .int (-1))], [.int (-1)], M50)) rfl rfl rfl ?_
                exact ps_ret rfl rfl (Or.inl ⟨e9123, I124, R125, by
                    rw [← hs9, maS_kb (i := i) (p := p) (s := s2) hi0 h1 hsm hw2 hs0 hb.2.2 q233_s q233_b], rfl, hR126, hEI139, hER140, hi129, hi130⟩)
              · skip
                obtain ⟨s'141, I142, R143, q233_s, q233_b, rfl, hR144, hI145, hX146, hC_147⟩ := q51
                have hi148 := (hI145 51 (by decide)).trans hl51
                have hi149 := (hI145 52 (by decide)).trans hl52
                have hi150 := (hI145 53 (by decide)).trans hl53
                have hF_151 := hF_42.mono (cIx hI145 (by decide)) (cRx hX146 (by decide))
                have hY_152 := hY_43.mono (cIx hI145 (by decide)) (cRx hX146 (by decide))
                have hP_153 := hP_44.mono (cIx hI145 (by decide)) (cRx hX146 (by decide))
                have hK_154 := hK_45.mono (cIx hI145 (by decide)) (cRx hX146 (by decide))
                have hX_155 := hX_46.mono (cIx hI145 (by decide)) (cRx hX146 (by decide))
                have hEI156 := hEI1.tr hI145 (by decide)
                have hER157 := hER48.tr hX146 (by decide)
                show pl _ _ _ (236, [(0, .ref m0), (2, .int 2), (3, .int (nI x)), (4, .int (nI (by2 f p1))), (5, .int (nI p)), (6, .int (nI s3)), (7, .int (nI i)), (8, .int (nI (by4 f (p + 2)))), (10, .int (nI w))], [.int 0], M50) _
                refine ps_st (S' := (238, [(11, .int 0), (0, .ref m0), (2, .int 2), (3, .int (nI x)), (4, .int (nI (by2 f p1))), (5, .int (nI p)), (6, .int (nI s3)), (7, .int (nI i)), (8, .int (nI (by4 f (p + 2)))), (10, .int (nI w))], [], M50)) rfl rfl rfl ?_
                refine ps_st (S' := (240, [(11, .int 0), (0, .ref m0), (2, .int 2), (3, .int (nI x)), (4, .int (nI (by2 f p1))), (5, .int (nI p)), (6, .int (nI s3)), (7, .int (nI i)), (8, .int (nI (by4 f (p + 2)))), (10, .int (nI w))], [.int (nI s3)], M50)) rfl rfl rfl ?_
                refine ps_st (S' := (241, [(11, .int 0), (0, .ref m0), (2, .int 2), (3, .int (nI x)), (4, .int (nI (by2 f p1))), (5, .int (nI p)), (6, .int (nI s3)), (7, .int (nI i)), (8, .int (nI (by4 f (p + 2)))), (10, .int (nI w))], [.int 1, .int (nI s3)], M50)) rfl rfl rfl ?_
                refine ps_st (S' := (243, [(11, .int 0), (0, .ref m0), (2, .int 2), (3, .int (nI x)), (4, .int (nI (by2 f p1))), (5, .int (nI p)), (6, .int (nI s3)), (7, .int (nI i)), (8, .int (nI (by4 f (p + 2)))), (10, .int (nI w))], [.int (nI w), .int 1, .int (nI s3)], M50)) rfl rfl rfl ?_
                refine ps_st (S' := (244, [(11, .int 0), (0, .ref m0), (2, .int 2), (3, .int (nI x)), (4, .int (nI (by2 f p1))), (5, .int (nI p)), (6, .int (nI s3)), (7, .int (nI i)), (8, .int (nI (by4 f (p + 2)))), (10, .int (nI w))], [.int (1 <<< ((nI w) &&& 31)), .int (nI s3)], M50)) rfl rfl rfl ?_
                refine ps_st (S' := (245, [(11, .int 0), (0, .ref m0), (2, .int 2), (3, .int (nI x)), (4, .int (nI (by2 f p1))), (5, .int (nI p)), (6, .int (nI s3)), (7, .int (nI i)), (8, .int (nI (by4 f (p + 2)))), (10, .int (nI w))], [.int ((nI s3) ||| (1 <<< ((nI w) &&& 31)))], M50)) rfl rfl rfl ?_
                rw [or_k s3 w (by omega)]
                show pl _ _ _ (_, [(11, .int 0), (0, .ref m0), (2, .int 2), (3, .int (nI x)), (4, .int (nI (by2 f p1))), (5, .int (nI p)), (6, .int (nI s3)), (7, .int (nI i)), (8, .int (nI (by4 f (p + 2)))), (10, .int (nI w))], [.int (nI (so s3 w))], M50) _
                refine ps_st (S' := (247, [(6, .int (nI (so s3 w))), (11, .int 0), (0, .ref m0), (2, .int 2), (3, .int (nI x)), (4, .int (nI (by2 f p1))), (5, .int (nI p)), (7, .int (nI i)), (8, .int (nI (by4 f (p + 2)))), (10, .int (nI w))], [], M50)) rfl rfl rfl ?_
                refine ps_st (S' := (249, [(6, .int (nI (so s3 w))), (11, .int 0), (0, .ref m0), (2, .int 2), (3, .int (nI x)), (4, .int (nI (by2 f p1))), (5, .int (nI p)), (7, .int (nI i)), (8, .int (nI (by4 f (p + 2)))), (10, .int (nI w))], [.int 0], M50)) rfl rfl rfl ?_
                refine ps_if (S1 := (261, [(0, .ref m0), (2, .int 2), (3, .int (nI x)), (4, .int (nI (by2 f p1))), (5, .int (nI p)), (6, .int (nI (so s3 w))), (7, .int (nI i)), (8, .int (nI (by4 f (p + 2)))), (11, .int 0)], [], M50)) (S2 := (252, [(6, .int (nI (so s3 w))), (11, .int 0), (0, .ref m0), (2, .int 2), (3, .int (nI x)), (4, .int (nI (by2 f p1))), (5, .int (nI p)), (7, .int (nI i)), (8, .int (nI (by4 f (p + 2)))), (10, .int (nI w))], [], M50)) rfl rfl rfl (fun c_249 => ?_) (fun c_249 => ?_)
                rotate_left
                · exact absurd (by decide) (of_decide_eq_false c_249)
                refine ps_st (S' := (263, [(0, .ref m0), (2, .int 2), (3, .int (nI x)), (4, .int (nI (by2 f p1))), (5, .int (nI p)), (6, .int (nI (so s3 w))), (7, .int (nI i)), (8, .int (nI (by4 f (p + 2)))), (11, .int 0)], [.int 0], M50)) rfl rfl rfl ?_
                refine ps_if (S1 := (268, [(0, .ref m0), (2, .int 2), (3, .int (nI x)), (4, .int (nI (by2 f p1))), (5, .int (nI p)), (6, .int (nI (so s3 w))), (7, .int (nI i)), (8, .int (nI (by4 f (p + 2))))], [], M50)) (S2 := (266, [(0, .ref m0), (2, .int 2), (3, .int (nI x)), (4, .int (nI (by2 f p1))), (5, .int (nI p)), (6, .int (nI (so s3 w))), (7, .int (nI i)), (8, .int (nI (by4 f (p + 2)))), (11, .int 0)], [], M50)) rfl rfl rfl (fun c_263 => ?_) (fun c_263 => ?_)
                rotate_left
                · exact absurd (by decide) (of_decide_eq_false c_263)
                refine ps_st (S' := (270, [(0, .ref m0), (2, .int 2), (3, .int (nI x)), (4, .int (nI (by2 f p1))), (5, .int (nI p)), (6, .int (nI (so s3 w))), (7, .int (nI i)), (8, .int (nI (by4 f (p + 2))))], [.int (nI p)], M50)) rfl rfl rfl ?_
                refine ps_st (S' := (272, [(0, .ref m0), (2, .int 2), (3, .int (nI x)), (4, .int (nI (by2 f p1))), (5, .int (nI p)), (6, .int (nI (so s3 w))), (7, .int (nI i)), (8, .int (nI (by4 f (p + 2))))], [.int 6, .int (nI p)], M50)) rfl rfl rfl ?_
                refine ps_st (S' := (274, [(0, .ref m0), (2, .int 2), (3, .int (nI x)), (4, .int (nI (by2 f p1))), (5, .int (nI p)), (6, .int (nI (so s3 w))), (7, .int (nI i)), (8, .int (nI (by4 f (p + 2))))], [.int (nI (by4 f (p + 2))), .int 6, .int (nI p)], M50)) rfl rfl rfl ?_
                refine ps_st (S' := (275, [(0, .ref m0), (2, .int 2), (3, .int (nI x)), (4, .int (nI (by2 f p1))), (5, .int (nI p)), (6, .int (nI (so s3 w))), (7, .int (nI i)), (8, .int (nI (by4 f (p + 2))))], [.int (6 + (nI (by4 f (p + 2)))), .int (nI p)], M50)) rfl rfl rfl ?_
                rw [nI_add2 (p := 6) (k := by4 f (p + 2)) (x := 6) (y := (nI (by4 f (p + 2)))) rfl rfl (by omega)]
                show pl _ _ _ (_, [(0, .ref m0), (2, .int 2), (3, .int (nI x)), (4, .int (nI (by2 f p1))), (5, .int (nI p)), (6, .int (nI (so s3 w))), (7, .int (nI i)), (8, .int (nI (by4 f (p + 2))))], [.int (nI (6 + by4 f (p + 2))), .int (nI p)], M50) _
                refine ps_st (S' := (276, [(0, .ref m0), (2, .int 2), (3, .int (nI x)), (4, .int (nI (by2 f p1))), (5, .int (nI p)), (6, .int (nI (so s3 w))), (7, .int (nI i)), (8, .int (nI (by4 f (p + 2))))], [.int ((nI p) + (nI (6 + by4 f (p + 2))))], M50)) rfl rfl rfl ?_
                rw [nI_add1 (p := p) (k := 6 + by4 f (p + 2)) (x := (nI (6 + by4 f (p + 2)))) rfl (by omega)]
                rw [show nI (p + (6 + by4 f (p + 2))) = nI (p + 6 + by4 f (p + 2)) from congrArg nI (by omega)]
                show pl _ _ _ (_, [(0, .ref m0), (2, .int 2), (3, .int (nI x)), (4, .int (nI (by2 f p1))), (5, .int (nI p)), (6, .int (nI (so s3 w))), (7, .int (nI i)), (8, .int (nI (by4 f (p + 2))))], [.int (nI (p + 6 + by4 f (p + 2)))], M50) _
                refine ps_st (S' := (278, [(5, .int (nI (p + 6 + by4 f (p + 2)))), (0, .ref m0), (2, .int 2), (3, .int (nI x)), (4, .int (nI (by2 f p1))), (6, .int (nI (so s3 w))), (7, .int (nI i)), (8, .int (nI (by4 f (p + 2))))], [], M50)) rfl rfl rfl ?_
                refine ps_st (S' := (281, [(7, .int ((nI i) + 1)), (5, .int (nI (p + 6 + by4 f (p + 2)))), (0, .ref m0), (2, .int 2), (3, .int (nI x)), (4, .int (nI (by2 f p1))), (6, .int (nI (so s3 w))), (8, .int (nI (by4 f (p + 2))))], [], M50)) rfl rfl rfl ?_
                rw [nI_add1 (p := i) (k := 1) (x := 1) rfl (by omega)]
                show pl _ _ _ (_, [(7, .int (nI (i + 1))), (5, .int (nI (p + 6 + by4 f (p + 2)))), (0, .ref m0), (2, .int 2), (3, .int (nI x)), (4, .int (nI (by2 f p1))), (6, .int (nI (so s3 w))), (8, .int (nI (by4 f (p + 2))))], [], M50) _
                refine ps_st (S' := (18, [(0, .ref m0), (2, .int 2), (3, .int (nI x)), (4, .int (nI (by2 f p1))), (5, .int (nI (p + 6 + by4 f (p + 2)))), (6, .int (nI (so s3 w))), (7, .int (nI (i + 1)))], [], M50)) rfl rfl rfl ?_
                obtain ⟨s4, e4, f4, g4⟩ := maS_kg (i := i) (p := p) (s := s2) hi0 h1 hsm hw2 hs0 hb.2.2 q233_s q233_b
                exact ih.1 (i + 1) (p + 6 + by4 f (p + 2)) (s4) (so s3 w) (if w = 1 then 1 else h) M50 I142 R143 hR144 hEI156 hER157 hi148 hi149 hi150 hF_151 hY_152 hP_153 hK_154 hX_155 hC_147 (by omega) (so_lt hl (by omega)) (mk_b hw2 hb f4 g4) (hq7) (by rw [← hs9, e4])
            · have c_198 : ¬ (¬ (nI (sb s3 w)) = 1) := of_decide_eq_false c_198
              have n_198 : sb s3 w = 1 := (eq_nI (p := sb s3 w) (n := 1) (Nat.lt_trans (sb_lt _ _) (by decide)) (by decide)).mp (Decidable.not_not.mp c_198)
              refine ps_st (S' := (202, [(0, .ref m0), (2, .int 2), (3, .int (nI x)), (4, .int (nI (by2 f p1))), (5, .int (nI p)), (6, .int (nI s3)), (7, .int (nI i)), (8, .int (nI (by4 f (p + 2)))), (10, .int (nI w))], [.ref m0], M38)) rfl rfl rfl ?_
              refine ps_st (S' := (204, [(0, .ref m0), (2, .int 2), (3, .int (nI x)), (4, .int (nI (by2 f p1))), (5, .int (nI p)), (6, .int (nI s3)), (7, .int (nI i)), (8, .int (nI (by4 f (p + 2)))), (10, .int (nI w))], [.int 29, .ref m0], M38)) rfl rfl rfl ?_
              refine ps_st (S' := (206, [(0, .ref m0), (2, .int 2), (3, .int (nI x)), (4, .int (nI (by2 f p1))), (5, .int (nI p)), (6, .int (nI s3)), (7, .int (nI i)), (8, .int (nI (by4 f (p + 2)))), (10, .int (nI w))], [.int (nI p), .int 29, .ref m0], M38)) rfl rfl rfl ?_
              refine pl_call (a := [.ref m0, .int 29, .int (nI p)]) (rest := []) rfl rfl rfl (rd_wrong (x1 := 29) (x2 := (nI p)) hR40) (fun v158 M159 q160 => ?_)
              obtain ⟨I161, R162, rfl, hR163, hI164, hX165, hi166, hi167⟩ := q160
              have hi168 := (hI164 51 (by decide)).trans hl51
              have hi169 := (hI164 52 (by decide)).trans hl52
              have hi170 := (hI164 53 (by decide)).trans hl53
              have hF_171 := hF_42.mono (cIx hI164 (by decide)) (cRx hX165 (by decide))
              have hY_172 := hY_43.mono (cIx hI164 (by decide)) (cRx hX165 (by decide))
              have hP_173 := hP_44.mono (cIx hI164 (by decide)) (cRx hX165 (by decide))
              have hK_174 := hK_45.mono (cIx hI164 (by decide)) (cRx hX165 (by decide))
              have hX_175 := hX_46.mono (cIx hI164 (by decide)) (cRx hX165 (by decide))
              have hC_176 := hC_47.mono (cIx hI164 (by decide)) (cRx hX165 (by decide))
              have hEI177 := hEI1.tr hI164 (by decide)
              have hER178 := hER48.tr hX165 (by decide)
              show pl _ _ _ (209, [(0, .ref m0), (2, .int 2), (3, .int (nI x)), (4, .int (nI (by2 f p1))), (5, .int (nI p)), (6, .int (nI s3)), (7, .int (nI i)), (8, .int (nI (by4 f (p + 2)))), (10, .int (nI w))], [.int 0], M159) _
              refine ps_st (S' := (210, [(0, .ref m0), (2, .int 2), (3, .int (nI x)), (4, .int (nI (by2 f p1))), (5, .int (nI p)), (6, .int (nI s3)), (7, .int (nI i)), (8, .int (nI (by4 f (p + 2)))), (10, .int (nI w))], [], M159)) rfl rfl rfl ?_
              refine ps_st (S' := (211, [(0, .ref m0), (2, .int 2), (3, .int (nI x)), (4, .int (nI (by2 f p1))), (5, .int (nI p)), (6, .int (nI s3)), (7, .int (nI i)), (8, .int (nI (by4 f (p + 2)))), (10, .int (nI w))], [.int (-1)], M159)) rfl rfl rfl ?_
              exact ps_ret rfl rfl (Or.inl ⟨(29, p), I161, R162, by
                  rw [← hs9, maS_29 (i := i) (p := p) (s := s2) hi0 h1 hsm (by omega)], rfl, hR163, hEI177, hER178, hi166, hi167⟩)
        · have c_86 : ¬ ((nI 10) ≤ (nI k)) := of_decide_eq_false c_86
          have n_86 : ¬ (10 ≤ k) := fun h9 => c_86 ((le_nI (p := 10) (n := k) (by decide) (by omega)).mpr h9)
          refine ps_st (S' := (90, [(0, .ref m0), (2, .int 2), (3, .int (nI x)), (4, .int (nI (by2 f p1))), (5, .int (nI p)), (6, .int (nI s3)), (7, .int (nI i)), (8, .int (nI (by4 f (p + 2)))), (9, .int (nI t)), (10, .int (gI (kb mj 2 (tX f n E (by2 f p)) k))), (11, .int (nI k))], [.ref m0], M1)) rfl rfl rfl ?_
          refine pr_ref (j := 63) (S' := (93, [(0, .ref m0), (2, .int 2), (3, .int (nI x)), (4, .int (nI (by2 f p1))), (5, .int (nI p)), (6, .int (nI s3)), (7, .int (nI i)), (8, .int (nI (by4 f (p + 2)))), (9, .int (nI t)), (10, .int (gI (kb mj 2 (tX f n E (by2 f p)) k))), (11, .int (nI k))], [.ref (q 63)], M1)) rfl hR1 rfl rfl ?_
          refine ps_st (S' := (95, [(0, .ref m0), (2, .int 2), (3, .int (nI x)), (4, .int (nI (by2 f p1))), (5, .int (nI p)), (6, .int (nI s3)), (7, .int (nI i)), (8, .int (nI (by4 f (p + 2)))), (9, .int (nI t)), (10, .int (gI (kb mj 2 (tX f n E (by2 f p)) k))), (11, .int (nI k))], [.int (nI k), .ref (q 63)], M1)) rfl rfl rfl ?_
          have hki_95 := kiN_lt k
          refine pr_ld (a := 63) (j := k) (y := (nI (kiN k))) (S' := (96, [(0, .ref m0), (2, .int 2), (3, .int (nI x)), (4, .int (nI (by2 f p1))), (5, .int (nI p)), (6, .int (nI s3)), (7, .int (nI i)), (8, .int (nI (by4 f (p + 2)))), (9, .int (nI t)), (10, .int (gI (kb mj 2 (tX f n E (by2 f p)) k))), (11, .int (nI k))], [.int (nI (kiN k))], M1)) rfl hR1 rfl (by omega) (fun _ => (hK1 k (by omega)).1) rfl (fun i1_95 => ?_)
          refine ps_st (S' := (97, [(0, .ref m0), (2, .int 2), (3, .int (nI x)), (4, .int (nI (by2 f p1))), (5, .int (nI p)), (6, .int (nI s3)), (7, .int (nI i)), (8, .int (nI (by4 f (p + 2)))), (9, .int (nI t)), (10, .int (gI (kb mj 2 (tX f n E (by2 f p)) k))), (11, .int (nI k))], [.int 2, .int (nI (kiN k))], M1)) rfl rfl rfl ?_
          refine ps_if2 (S1 := (134, [(0, .ref m0), (2, .int 2), (3, .int (nI x)), (4, .int (nI (by2 f p1))), (5, .int (nI p)), (6, .int (nI s3)), (7, .int (nI i)), (8, .int (nI (by4 f (p + 2)))), (9, .int (nI t)), (10, .int (gI (kb mj 2 (tX f n E (by2 f p)) k))), (11, .int (nI k))], [], M1)) (S2 := (100, [(0, .ref m0), (2, .int 2), (3, .int (nI x)), (4, .int (nI (by2 f p1))), (5, .int (nI p)), (6, .int (nI s3)), (7, .int (nI i)), (8, .int (nI (by4 f (p + 2)))), (9, .int (nI t)), (10, .int (gI (kb mj 2 (tX f n E (by2 f p)) k))), (11, .int (nI k))], [], M1)) rfl rfl rfl (fun c_97 => ?_) (fun c_97 => ?_)
          · have c_97 : ¬ (nI (kiN k)) = 2 := of_decide_eq_true c_97
            have n_97 : ¬ (kiN k = 2) := fun h9 => c_97 ((eq_nI (p := kiN k) (n := 2) (Nat.lt_trans (kiN_lt _) (by decide)) (by decide)).mpr h9)
            refine ps_st (S' := (137, [(11, .int ((nI k) + 1)), (0, .ref m0), (2, .int 2), (3, .int (nI x)), (4, .int (nI (by2 f p1))), (5, .int (nI p)), (6, .int (nI s3)), (7, .int (nI i)), (8, .int (nI (by4 f (p + 2)))), (9, .int (nI t)), (10, .int (gI (kb mj 2 (tX f n E (by2 f p)) k)))], [], M1)) rfl rfl rfl ?_
            rw [nI_add1 (p := k) (k := 1) (x := 1) rfl (by omega)]
            show pl _ _ _ (_, [(11, .int (nI (k + 1))), (0, .ref m0), (2, .int 2), (3, .int (nI x)), (4, .int (nI (by2 f p1))), (5, .int (nI p)), (6, .int (nI s3)), (7, .int (nI i)), (8, .int (nI (by4 f (p + 2)))), (9, .int (nI t)), (10, .int (gI (kb mj 2 (tX f n E (by2 f p)) k)))], [], M1) _
            refine ps_st (S' := (79, [(0, .ref m0), (2, .int 2), (3, .int (nI x)), (4, .int (nI (by2 f p1))), (5, .int (nI p)), (6, .int (nI s3)), (7, .int (nI i)), (8, .int (nI (by4 f (p + 2)))), (9, .int (nI t)), (10, .int (gI (kb mj 2 (tX f n E (by2 f p)) k))), (11, .int (nI (k + 1)))], [], M1)) rfl rfl rfl ?_
            have hkb : (gI (kb mj 2 (tX f n E (by2 f p)) k)) = gI (kb mj 2 (tX f n E (by2 f p)) (k + 1)) := by
              conv => rhs; unfold kb
              rw [if_neg (by omega)]
            rw [hkb]
            exact ih.2 (i) (p) (s2) (s3) (k + 1) (t) (h) M1 I1 R1 hR1 hEI1 hER1 hl51 hl52 hl53 hF1 hY1 hP1 hK1 hX1 hC1 (hi0) (hl) (hb) (ha) (hs9) (by omega) (h1) (hsy)
          · have c_97 : ¬ (¬ (nI (kiN k)) = 2) := of_decide_eq_false c_97
            have n_97 : kiN k = 2 := (eq_nI (p := kiN k) (n := 2) (Nat.lt_trans (kiN_lt _) (by decide)) (by decide)).mp (Decidable.not_not.mp c_97)
            refine ps_st (S' := (101, [(0, .ref m0), (2, .int 2), (3, .int (nI x)), (4, .int (nI (by2 f p1))), (5, .int (nI p)), (6, .int (nI s3)), (7, .int (nI i)), (8, .int (nI (by4 f (p + 2)))), (9, .int (nI t)), (10, .int (gI (kb mj 2 (tX f n E (by2 f p)) k))), (11, .int (nI k))], [.ref m0], M1)) rfl rfl rfl ?_
            refine pr_int (j := 53) (S' := (104, [(0, .ref m0), (2, .int 2), (3, .int (nI x)), (4, .int (nI (by2 f p1))), (5, .int (nI p)), (6, .int (nI s3)), (7, .int (nI i)), (8, .int (nI (by4 f (p + 2)))), (9, .int (nI t)), (10, .int (gI (kb mj 2 (tX f n E (by2 f p)) k))), (11, .int (nI k))], [.int (nI mj)], M1)) rfl hR1 rfl hl53 rfl ?_
            refine ps_st (S' := (105, [(0, .ref m0), (2, .int 2), (3, .int (nI x)), (4, .int (nI (by2 f p1))), (5, .int (nI p)), (6, .int (nI s3)), (7, .int (nI i)), (8, .int (nI (by4 f (p + 2)))), (9, .int (nI t)), (10, .int (gI (kb mj 2 (tX f n E (by2 f p)) k))), (11, .int (nI k))], [.ref m0, .int (nI mj)], M1)) rfl rfl rfl ?_
            refine pr_ref (j := 64) (S' := (108, [(0, .ref m0), (2, .int 2), (3, .int (nI x)), (4, .int (nI (by2 f p1))), (5, .int (nI p)), (6, .int (nI s3)), (7, .int (nI i)), (8, .int (nI (by4 f (p + 2)))), (9, .int (nI t)), (10, .int (gI (kb mj 2 (tX f n E (by2 f p)) k))), (11, .int (nI k))], [.ref (q 64), .int (nI mj)], M1)) rfl hR1 rfl rfl ?_
            refine ps_st (S' := (110, [(0, .ref m0), (2, .int 2), (3, .int (nI x)), (4, .int (nI (by2 f p1))), (5, .int (nI p)), (6, .int (nI s3)), (7, .int (nI i)), (8, .int (nI (by4 f (p + 2)))), (9, .int (nI t)), (10, .int (gI (kb mj 2 (tX f n E (by2 f p)) k))), (11, .int (nI k))], [.int (nI k), .ref (q 64), .int (nI mj)], M1)) rfl rfl rfl ?_
            have hkf_110 := kfN_lt k
            refine pr_ld (a := 64) (j := k) (y := (nI (kfN k))) (S' := (111, [(0, .ref m0), (2, .int 2), (3, .int (nI x)), (4, .int (nI (by2 f p1))), (5, .int (nI p)), (6, .int (nI s3)), (7, .int (nI i)), (8, .int (nI (by4 f (p + 2)))), (9, .int (nI t)), (10, .int (gI (kb mj 2 (tX f n E (by2 f p)) k))), (11, .int (nI k))], [.int (nI (kfN k)), .int (nI mj)], M1)) rfl hR1 rfl (by omega) (fun _ => (hK1 k (by omega)).2) rfl (fun i1_110 => ?_)
            refine ps_if2 (S1 := (134, [(0, .ref m0), (2, .int 2), (3, .int (nI x)), (4, .int (nI (by2 f p1))), (5, .int (nI p)), (6, .int (nI s3)), (7, .int (nI i)), (8, .int (nI (by4 f (p + 2)))), (9, .int (nI t)), (10, .int (gI (kb mj 2 (tX f n E (by2 f p)) k))), (11, .int (nI k))], [], M1)) (S2 := (114, [(0, .ref m0), (2, .int 2), (3, .int (nI x)), (4, .int (nI (by2 f p1))), (5, .int (nI p)), (6, .int (nI s3)), (7, .int (nI i)), (8, .int (nI (by4 f (p + 2)))), (9, .int (nI t)), (10, .int (gI (kb mj 2 (tX f n E (by2 f p)) k))), (11, .int (nI k))], [], M1)) rfl rfl rfl (fun c_111 => ?_) (fun c_111 => ?_)
            · have c_111 : (nI mj) < (nI (kfN k)) := of_decide_eq_true c_111
              have n_111 : mj < kfN k := (lt_nI (p := mj) (n := kfN k) (by omega) (Nat.lt_trans (kfN_lt _) (by decide))).mp c_111
              refine ps_st (S' := (137, [(11, .int ((nI k) + 1)), (0, .ref m0), (2, .int 2), (3, .int (nI x)), (4, .int (nI (by2 f p1))), (5, .int (nI p)), (6, .int (nI s3)), (7, .int (nI i)), (8, .int (nI (by4 f (p + 2)))), (9, .int (nI t)), (10, .int (gI (kb mj 2 (tX f n E (by2 f p)) k)))], [], M1)) rfl rfl rfl ?_
              rw [nI_add1 (p := k) (k := 1) (x := 1) rfl (by omega)]
              show pl _ _ _ (_, [(11, .int (nI (k + 1))), (0, .ref m0), (2, .int 2), (3, .int (nI x)), (4, .int (nI (by2 f p1))), (5, .int (nI p)), (6, .int (nI s3)), (7, .int (nI i)), (8, .int (nI (by4 f (p + 2)))), (9, .int (nI t)), (10, .int (gI (kb mj 2 (tX f n E (by2 f p)) k)))], [], M1) _
              refine ps_st (S' := (79, [(0, .ref m0), (2, .int 2), (3, .int (nI x)), (4, .int (nI (by2 f p1))), (5, .int (nI p)), (6, .int (nI s3)), (7, .int (nI i)), (8, .int (nI (by4 f (p + 2)))), (9, .int (nI t)), (10, .int (gI (kb mj 2 (tX f n E (by2 f p)) k))), (11, .int (nI (k + 1)))], [], M1)) rfl rfl rfl ?_
              have hkb : (gI (kb mj 2 (tX f n E (by2 f p)) k)) = gI (kb mj 2 (tX f n E (by2 f p)) (k + 1)) := by
                conv => rhs; unfold kb
                rw [if_neg (by omega)]
              rw [hkb]
              exact ih.2 (i) (p) (s2) (s3) (k + 1) (t) (h) M1 I1 R1 hR1 hEI1 hER1 hl51 hl52 hl53 hF1 hY1 hP1 hK1 hX1 hC1 (hi0) (hl) (hb) (ha) (hs9) (by omega) (h1) (hsy)
            · have c_111 : ¬ ((nI mj) < (nI (kfN k))) := of_decide_eq_false c_111
              have n_111 : ¬ (mj < kfN k) := fun h9 => c_111 ((lt_nI (p := mj) (n := kfN k) (by omega) (Nat.lt_trans (kfN_lt _) (by decide))).mpr h9)
              refine ps_st (S' := (115, [(0, .ref m0), (2, .int 2), (3, .int (nI x)), (4, .int (nI (by2 f p1))), (5, .int (nI p)), (6, .int (nI s3)), (7, .int (nI i)), (8, .int (nI (by4 f (p + 2)))), (9, .int (nI t)), (10, .int (gI (kb mj 2 (tX f n E (by2 f p)) k))), (11, .int (nI k))], [.ref m0], M1)) rfl rfl rfl ?_
              refine ps_st (S' := (117, [(0, .ref m0), (2, .int 2), (3, .int (nI x)), (4, .int (nI (by2 f p1))), (5, .int (nI p)), (6, .int (nI s3)), (7, .int (nI i)), (8, .int (nI (by4 f (p + 2)))), (9, .int (nI t)), (10, .int (gI (kb mj 2 (tX f n E (by2 f p)) k))), (11, .int (nI k))], [.int (nI t), .ref m0], M1)) rfl rfl rfl ?_
              refine ps_st (S' := (118, [(0, .ref m0), (2, .int 2), (3, .int (nI x)), (4, .int (nI (by2 f p1))), (5, .int (nI p)), (6, .int (nI s3)), (7, .int (nI i)), (8, .int (nI (by4 f (p + 2)))), (9, .int (nI t)), (10, .int (gI (kb mj 2 (tX f n E (by2 f p)) k))), (11, .int (nI k))], [.ref m0, .int (nI t), .ref m0], M1)) rfl rfl rfl ?_
              refine pr_ref (j := 62) (S' := (121, [(0, .ref m0), (2, .int 2), (3, .int (nI x)), (4, .int (nI (by2 f p1))), (5, .int (nI p)), (6, .int (nI s3)), (7, .int (nI i)), (8, .int (nI (by4 f (p + 2)))), (9, .int (nI t)), (10, .int (gI (kb mj 2 (tX f n E (by2 f p)) k))), (11, .int (nI k))], [.ref (q 62), .int (nI t), .ref m0], M1)) rfl hR1 rfl rfl ?_
              refine ps_st (S' := (123, [(0, .ref m0), (2, .int 2), (3, .int (nI x)), (4, .int (nI (by2 f p1))), (5, .int (nI p)), (6, .int (nI s3)), (7, .int (nI i)), (8, .int (nI (by4 f (p + 2)))), (9, .int (nI t)), (10, .int (gI (kb mj 2 (tX f n E (by2 f p)) k))), (11, .int (nI k))], [.int (nI k), .ref (q 62), .int (nI t), .ref m0], M1)) rfl rfl rfl ?_
              refine pr_kn (j := k) (S' := (124, [(0, .ref m0), (2, .int 2), (3, .int (nI x)), (4, .int (nI (by2 f p1))), (5, .int (nI p)), (6, .int (nI s3)), (7, .int (nI i)), (8, .int (nI (by4 f (p + 2)))), (9, .int (nI t)), (10, .int (gI (kb mj 2 (tX f n E (by2 f p)) k))), (11, .int (nI k))], [.ref (g.2.1 (15 + k)), .int (nI t), .ref m0], M1)) rfl hR1 (by omega) rfl ?_
              refine pl_call (a := [.ref m0, .int (nI t), .ref (g.2.1 (15 + k))]) (rest := []) rfl rfl rfl (rd_is (tx := tx) (cN := cN) (A := A) (s := t) (l := (tX f n E (by2 f p))) (lk := (15 + k)) hR1 hY1 (hsy) (⟨by omega, by omega⟩)) (fun v179 M180 q181 => ?_)
              obtain ⟨rfl, rfl⟩ := q181
              show pl _ _ _ (127, [(0, .ref m0), (2, .int 2), (3, .int (nI x)), (4, .int (nI (by2 f p1))), (5, .int (nI p)), (6, .int (nI s3)), (7, .int (nI i)), (8, .int (nI (by4 f (p + 2)))), (9, .int (nI t)), (10, .int (gI (kb mj 2 (tX f n E (by2 f p)) k))), (11, .int (nI k))], [.int (nI (eqN (tX f n E (by2 f p)) (ltx (15 + k))))], M1) _
              refine ps_if (S1 := (134, [(0, .ref m0), (2, .int 2), (3, .int (nI x)), (4, .int (nI (by2 f p1))), (5, .int (nI p)), (6, .int (nI s3)), (7, .int (nI i)), (8, .int (nI (by4 f (p + 2)))), (9, .int (nI t)), (10, .int (gI (kb mj 2 (tX f n E (by2 f p)) k))), (11, .int (nI k))], [], M1)) (S2 := (130, [(0, .ref m0), (2, .int 2), (3, .int (nI x)), (4, .int (nI (by2 f p1))), (5, .int (nI p)), (6, .int (nI s3)), (7, .int (nI i)), (8, .int (nI (by4 f (p + 2)))), (9, .int (nI t)), (10, .int (gI (kb mj 2 (tX f n E (by2 f p)) k))), (11, .int (nI k))], [], M1)) rfl rfl rfl (fun c_127 => ?_) (fun c_127 => ?_)
              · have c_127 : (nI (eqN (tX f n E (by2 f p)) (ltx (15 + k)))) = 0 := of_decide_eq_true c_127
                have n_127 : eqN (tX f n E (by2 f p)) (ltx (15 + k)) = 0 := (eq_nI (p := eqN (tX f n E (by2 f p)) (ltx (15 + k))) (n := 0) (Nat.lt_trans (le1_eq _ _) (by decide)) (by decide)).mp c_127
                refine ps_st (S' := (137, [(11, .int ((nI k) + 1)), (0, .ref m0), (2, .int 2), (3, .int (nI x)), (4, .int (nI (by2 f p1))), (5, .int (nI p)), (6, .int (nI s3)), (7, .int (nI i)), (8, .int (nI (by4 f (p + 2)))), (9, .int (nI t)), (10, .int (gI (kb mj 2 (tX f n E (by2 f p)) k)))], [], M1)) rfl rfl rfl ?_
                rw [nI_add1 (p := k) (k := 1) (x := 1) rfl (by omega)]
                show pl _ _ _ (_, [(11, .int (nI (k + 1))), (0, .ref m0), (2, .int 2), (3, .int (nI x)), (4, .int (nI (by2 f p1))), (5, .int (nI p)), (6, .int (nI s3)), (7, .int (nI i)), (8, .int (nI (by4 f (p + 2)))), (9, .int (nI t)), (10, .int (gI (kb mj 2 (tX f n E (by2 f p)) k)))], [], M1) _
                refine ps_st (S' := (79, [(0, .ref m0), (2, .int 2), (3, .int (nI x)), (4, .int (nI (by2 f p1))), (5, .int (nI p)), (6, .int (nI s3)), (7, .int (nI i)), (8, .int (nI (by4 f (p + 2)))), (9, .int (nI t)), (10, .int (gI (kb mj 2 (tX f n E (by2 f p)) k))), (11, .int (nI (k + 1)))], [], M1)) rfl rfl rfl ?_
                have hkb : (gI (kb mj 2 (tX f n E (by2 f p)) k)) = gI (kb mj 2 (tX f n E (by2 f p)) (k + 1)) := by
                  conv => rhs; unfold kb
                  rw [if_neg (by omega)]
                rw [hkb]
                exact ih.2 (i) (p) (s2) (s3) (k + 1) (t) (h) M1 I1 R1 hR1 hEI1 hER1 hl51 hl52 hl53 hF1 hY1 hP1 hK1 hX1 hC1 (hi0) (hl) (hb) (ha) (hs9) (by omega) (h1) (hsy)
              · have c_127 : ¬ ((nI (eqN (tX f n E (by2 f p)) (ltx (15 + k)))) = 0) := of_decide_eq_false c_127
                have n_127 : ¬ (eqN (tX f n E (by2 f p)) (ltx (15 + k)) = 0) := fun h9 => c_127 ((eq_nI (p := eqN (tX f n E (by2 f p)) (ltx (15 + k))) (n := 0) (Nat.lt_trans (le1_eq _ _) (by decide)) (by decide)).mpr h9)
                refine ps_st (S' := (132, [(0, .ref m0), (2, .int 2), (3, .int (nI x)), (4, .int (nI (by2 f p1))), (5, .int (nI p)), (6, .int (nI s3)), (7, .int (nI i)), (8, .int (nI (by4 f (p + 2)))), (9, .int (nI t)), (10, .int (gI (kb mj 2 (tX f n E (by2 f p)) k))), (11, .int (nI k))], [.int (nI k)], M1)) rfl rfl rfl ?_
                refine ps_st (S' := (134, [(0, .ref m0), (2, .int 2), (3, .int (nI x)), (4, .int (nI (by2 f p1))), (5, .int (nI p)), (6, .int (nI s3)), (7, .int (nI i)), (8, .int (nI (by4 f (p + 2)))), (9, .int (nI t)), (10, .int (nI k)), (11, .int (nI k))], [], M1)) rfl rfl rfl ?_
                refine ps_st (S' := (137, [(11, .int ((nI k) + 1)), (0, .ref m0), (2, .int 2), (3, .int (nI x)), (4, .int (nI (by2 f p1))), (5, .int (nI p)), (6, .int (nI s3)), (7, .int (nI i)), (8, .int (nI (by4 f (p + 2)))), (9, .int (nI t)), (10, .int (nI k))], [], M1)) rfl rfl rfl ?_
                rw [nI_add1 (p := k) (k := 1) (x := 1) rfl (by omega)]
                show pl _ _ _ (_, [(11, .int (nI (k + 1))), (0, .ref m0), (2, .int 2), (3, .int (nI x)), (4, .int (nI (by2 f p1))), (5, .int (nI p)), (6, .int (nI s3)), (7, .int (nI i)), (8, .int (nI (by4 f (p + 2)))), (9, .int (nI t)), (10, .int (nI k))], [], M1) _
                refine ps_st (S' := (79, [(0, .ref m0), (2, .int 2), (3, .int (nI x)), (4, .int (nI (by2 f p1))), (5, .int (nI p)), (6, .int (nI s3)), (7, .int (nI i)), (8, .int (nI (by4 f (p + 2)))), (9, .int (nI t)), (10, .int (nI k)), (11, .int (nI (k + 1)))], [], M1)) rfl rfl rfl ?_
                have hkb : (nI k) = gI (kb mj 2 (tX f n E (by2 f p)) (k + 1)) := by
                  conv => rhs; unfold kb
                  rw [if_pos ⟨by omega, by omega, by omega⟩]
                  rfl
                rw [hkb]
                exact ih.2 (i) (p) (s2) (s3) (k + 1) (t) (h) M1 I1 R1 hR1 hEI1 hER1 hl51 hl52 hl53 hF1 hY1 hP1 hK1 hX1 hC1 (hi0) (hl) (hb) (ha) (hs9) (by omega) (h1) (hsy)
  refine ps_st (S' := (1, [(0, .ref m0), (1, .int (nI p1)), (2, .int 2), (3, .int (nI x))], [.ref m0], M)) rfl rfl rfl ?_
  refine ps_st (S' := (2, [(0, .ref m0), (1, .int (nI p1)), (2, .int 2), (3, .int (nI x))], [.int (nI p1), .ref m0], M)) rfl rfl rfl ?_
  refine pl_call (a := [.ref m0, .int (nI p1)]) (rest := []) rfl rfl rfl (rd_u2 (n := n) (f := f) (p := p1) hR hF (by omega)) (fun v182 M183 q184 => ?_)
  obtain ⟨rfl, rfl⟩ := q184
  show pl _ _ _ (5, [(0, .ref m0), (1, .int (nI p1)), (2, .int 2), (3, .int (nI x))], [.int (nI (by2 f p1))], M) _
  have hu_2 := by2_lt f p1
  refine ps_st (S' := (7, [(4, .int (nI (by2 f p1))), (0, .ref m0), (1, .int (nI p1)), (2, .int 2), (3, .int (nI x))], [], M)) rfl rfl rfl ?_
  refine ps_st (S' := (8, [(4, .int (nI (by2 f p1))), (0, .ref m0), (1, .int (nI p1)), (2, .int 2), (3, .int (nI x))], [.int (nI p1)], M)) rfl rfl rfl ?_
  refine ps_st (S' := (9, [(4, .int (nI (by2 f p1))), (0, .ref m0), (1, .int (nI p1)), (2, .int 2), (3, .int (nI x))], [.int 2, .int (nI p1)], M)) rfl rfl rfl ?_
  refine ps_st (S' := (10, [(4, .int (nI (by2 f p1))), (0, .ref m0), (1, .int (nI p1)), (2, .int 2), (3, .int (nI x))], [.int ((nI p1) + 2)], M)) rfl rfl rfl ?_
  rw [nI_add1 (p := p1) (k := 2) (x := 2) rfl (by omega)]
  show pl _ _ _ (_, [(4, .int (nI (by2 f p1))), (0, .ref m0), (1, .int (nI p1)), (2, .int 2), (3, .int (nI x))], [.int (nI (p1 + 2))], M) _
  refine ps_st (S' := (12, [(5, .int (nI (p1 + 2))), (4, .int (nI (by2 f p1))), (0, .ref m0), (1, .int (nI p1)), (2, .int 2), (3, .int (nI x))], [], M)) rfl rfl rfl ?_
  refine ps_st (S' := (13, [(5, .int (nI (p1 + 2))), (4, .int (nI (by2 f p1))), (0, .ref m0), (1, .int (nI p1)), (2, .int 2), (3, .int (nI x))], [.int 0], M)) rfl rfl rfl ?_
  refine ps_st (S' := (15, [(6, .int 0), (5, .int (nI (p1 + 2))), (4, .int (nI (by2 f p1))), (0, .ref m0), (1, .int (nI p1)), (2, .int 2), (3, .int (nI x))], [], M)) rfl rfl rfl ?_
  refine ps_st (S' := (16, [(6, .int 0), (5, .int (nI (p1 + 2))), (4, .int (nI (by2 f p1))), (0, .ref m0), (1, .int (nI p1)), (2, .int 2), (3, .int (nI x))], [.int 0], M)) rfl rfl rfl ?_
  refine ps_st (S' := (18, [(0, .ref m0), (2, .int 2), (3, .int (nI x)), (4, .int (nI (by2 f p1))), (5, .int (nI (p1 + 2))), (6, .int 0), (7, .int 0)], [], M)) rfl rfl rfl ?_
  exact (LL kf).1 (0) (p1 + 2) (0) (0) (0) M I R hR hEI hER hi51 hi52 hi53 hF hY hP hK hX hC (by omega) (by decide) (⟨rfl, rfl, fun _ => sb_0⟩) (hat) (rfl)
end
section
/-! fields and methods in the reference's rows (my own text) -/
/-- a cell of a row -/
def CE (a x : Nat) (v : Int32) (I : rI) (R : rR) : Prop := R a x = some v
theorem CE.mono {a x : Nat} {v : Int32} {I I' : rI} {R R' : rR} (h : CE a x v I R) (hI : ∀ k, k ∈ ([] : List Nat) → I' k = I k) (hR : ∀ k, k ∈ [a] → R' k = R k) : CE a x v I' R' := by
  unfold CE
  rw [hR a List.mem_cons_self]
  exact h
theorem CE.st {a x : Nat} {v : Int32} {I : rI} {R R' : rR} (h : R' = rset R a x v) : CE a x v I R' := by
  unfold CE
  rw [h, rset_at]
/-- members' heads: where they begin, where they end -/
def MBS (f : Nat → Int32) (n : Nat) (B : List Nat) (p : Nat) (E1 : Nat → Nat) : Prop := B.length = by2 f p ∧ p + 2 ≤ n ∧ (0 < B.length → B.getD 0 0 = p + 2) ∧
  ∀ i, i < B.length → B.getD i 0 + 8 ≤ E1 i ∧ E1 i ≤ n ∧ s_atE f (E1 i) (by2 f (B.getD i 0 + 6)) (B.getD i 0 + 8) = some (E1 i) ∧ (i + 1 < B.length → B.getD (i + 1) 0 = E1 i)
/-- names and descriptors of the members that were kept, in the rows a and b from number f0 on -/
def FN (a b : Nat) (f : Nat → Int32) (n : Nat) (E : List (Nat × Nat)) (tx : List (List Nat)) (B : List Nat) (f0 k : Nat) (I : rI) (R : rR) : Prop := ∀ j, j < k → ∃ s d, R a (f0 + j) = some (nI s) ∧ R b (f0 + j) = some (nI d) ∧
  (s < tx.length ∧ tx.getD s [] = tX f n E (by2 f (B.getD j 0 + 2))) ∧ (d < tx.length ∧ tx.getD d [] = tX f n E (by2 f (B.getD j 0 + 4))) ∧ tg f E (by2 f (B.getD j 0 + 2)) = 1 ∧ tg f E (by2 f (B.getD j 0 + 4)) = 1
theorem FN.mono {a b : Nat} {f : Nat → Int32} {n : Nat} {E : List (Nat × Nat)} {tx : List (List Nat)} {B : List Nat} {f0 k : Nat} {I I' : rI} {R R' : rR} (h : FN a b f n E tx B f0 k I R) (hI : ∀ k, k ∈ ([] : List Nat) → I' k = I k) (hR : ∀ k, k ∈ [a, b] → R' k = R k) : FN a b f n E tx B f0 k I' R' := by
  unfold FN
  rw [hR a (by simp), hR b (by simp)]
  exact h
theorem FN.st {a b c x : Nat} {v : Int32} {f : Nat → Int32} {n : Nat} {E : List (Nat × Nat)} {tx : List (List Nat)} {B : List Nat} {f0 k : Nat} {I I' : rI} {R R' : rR} (h : FN a b f n E tx B f0 k I R) (hs : R' = rset R c x v) (hx : x = f0 + k) : FN a b f n E tx B f0 k I' R' := fun j hj => by
  obtain ⟨s, d, h1, h2, h3⟩ := h j hj
  refine ⟨s, d, ?_, ?_, h3⟩
  · rw [hs]
    by_cases e : a = c
    · rw [e] at h1 ⊢
      rw [rset_el (by omega)]
      exact h1
    · rw [rset_ne e]
      exact h1
  · rw [hs]
    by_cases e : b = c
    · rw [e] at h2 ⊢
      rw [rset_el (by omega)]
      exact h2
    · rw [rset_ne e]
      exact h2
theorem FN.more {a b s d p : Nat} {f : Nat → Int32} {n : Nat} {E : List (Nat × Nat)} {tx : List (List Nat)} {B : List Nat} {f0 k : Nat} {I : rI} {R : rR} (h : FN a b f n E tx B f0 k I R) (hp : p = B.getD k 0) (h1 : CE a (f0 + k) (nI s) I R) (h2 : CE b (f0 + k) (nI d) I R) (h3 : s < tx.length ∧ tx.getD s [] = tX f n E (by2 f (p + 2))) (h4 : d < tx.length ∧ tx.getD d [] = tX f n E (by2 f (p + 4))) (t1 : tg f E (by2 f (p + 2)) = 1) (t2 : tg f E (by2 f (p + 4)) = 1) : FN a b f n E tx B f0 (k + 1) I R := fun j hj => by
  by_cases e : j = k
  · rw [e, ← hp]
    exact ⟨s, d, h1, h2, h3, h4, t1, t2⟩
  · exact h j (by omega)
theorem ffl_0 (c x : Nat) : fflN c x = 0 ↔ (oneN x = 0 ∨ ¬ hallN x 80 = 0 ∨ (¬ aN c 512 = 0 ∧ ¬ aN x 16607 = 25)) := by
  have h1 := ffl_25 x
  have h2 := has_0 c 512
  unfold fflN
  split
  · split <;> omega
  · split <;> omega

section FHS
variable {f : Nat → Int32} {n : Nat} {E : List (Nat × Nat)} {c k p : Nat} {B : List Nat}
theorem fh_19 (h : fflN c (by2 f p) = 0) : fhS f n E c B k p = some (19, p) := by
  unfold fhS
  rw [if_pos h]
theorem fh_20 (h : ¬ fflN c (by2 f p) = 0) (h1 : unqN (tX f n E (by2 f (p + 2))) = 0) : fhS f n E c B k p = some (20, p + 2) := by
  unfold fhS
  rw [if_neg h, if_pos h1]
theorem fh_21 (h : ¬ fflN c (by2 f p) = 0) (h1 : ¬ unqN (tX f n E (by2 f (p + 2))) = 0) (h2 : fldN (tX f n E (by2 f (p + 4))) = 0) : fhS f n E c B k p = some (21, p + 4) := by
  unfold fhS
  rw [if_neg h, if_neg h1, if_pos h2]
theorem fh_22 (hp : p = B.getD k 0) (h : ¬ fflN c (by2 f p) = 0) (h1 : ¬ unqN (tX f n E (by2 f (p + 2))) = 0) (h2 : ¬ fldN (tX f n E (by2 f (p + 4))) = 0) (h3 : ¬ smeS f n E B (by2 f (p + 2)) (by2 f (p + 4)) k 0 = none) : fhS f n E c B k p = some (22, p) := by
  unfold fhS
  rw [if_neg h, if_neg h1, if_neg h2, if_neg h3]
theorem fh_n (hp : p = B.getD k 0) (h : ¬ fflN c (by2 f p) = 0) (h1 : ¬ unqN (tX f n E (by2 f (p + 2))) = 0) (h2 : ¬ fldN (tX f n E (by2 f (p + 4))) = 0) (h3 : smeS f n E B (by2 f (p + 2)) (by2 f (p + 4)) k 0 = none) : fhS f n E c B k p = none := by
  unfold fhS
  rw [if_neg h, if_neg h1, if_neg h2, if_pos h3]
end FHS
set_option maxHeartbeats 8000000 in
theorem rd_checkFields {g : xe_G} {m0 : Nat} {q : Nat → Nat} {z : Nat × Nat} {I : rI} {R : rR} {M : mi_H} {n : Nat} {f : Nat → Int32} {tx : List (List Nat)} {cN : Nat} {A : Nat → Nat} {N mj : Nat} {E : List (Nat × Nat)} {pF f0 cf : Nat} {B : List Nat} {E1 : Nat → Nat} (hR : RS g m0 q z I R M) (hi51 : I 51 = some 0) (hi52 : I 52 = some (nI N)) (hi53 : I 53 = some (nI mj)) (hi58 : I 58 = some (nI cf)) (hi55 : I 55 = some (nI pF)) (hi25 : I 25 = some (nI f0)) (hF : FK n f I R) (hY : SYT tx cN A I R) (hP : RPV f n E tx N I R) (hK : KX I R) (hEP : EP f n E) (hN : N < 65536) (hmj : mj < 65536) (hMB : MBS f n B pF E1) (hf0 : f0 ≤ 8300) (hcf : cf < 65536) : pt (mT g) 189 [.ref m0] M (fun v M' => (∃  (I' : rI) (R' : rR), (flS f n E cf B B.length 0 = none) ∧ v = some (.int 1) ∧ RS g m0 q z I' R' M' ∧ eqI [25, 47, 48] I I' ∧ eqR [27, 28, 29, 30, 31, 32, 33] R R' ∧ I' 25 = some (nI (f0 + B.length))) ∨ (∃ (e9 : Nat × Nat) (I' : rI) (R' : rR), (flS f n E cf B B.length 0 = some e9) ∧ v = some (.int 0) ∧ RS g m0 q z I' R' M' ∧ eqI [25, 47, 48] I I' ∧ eqR [27, 28, 29, 30, 31, 32, 33] R R' ∧ I' 47 = some (nI e9.1) ∧ I' 48 = some (nI e9.2))) := by
  refine pt_in (b := mb_189 g) rfl (fun kf => ?_)
  show pl (mT g) kf (mb_189 g).2 (0, [(0, .ref m0)], [], M) _
  have hEI : eqI [25, 47, 48] I I := eqI.rf
  have hER : eqR [27, 28, 29, 30, 31, 32, 33] R R := eqR.rf
  have hn := hF.1
  have hBl := hMB.1
  have hp2 := hMB.2.1
  have hFN0 : FN 28 29 f n E tx B f0 0 I R := fun j hj => absurd hj (Nat.not_lt_zero _)
  have LL : ∀ (kf : Nat), (∀ (k p : Nat) (M1 : mi_H) (I1 : rI) (R1 : rR), (RS g m0 q z I1 R1 M1) → (eqI [25, 47, 48] I I1) → (eqR [27, 28, 29, 30, 31, 32, 33] R R1) → (I1 51 = some 0) → (I1 52 = some (nI N)) → (I1 53 = some (nI mj)) → (I1 58 = some (nI cf)) → (I1 55 = some (nI pF)) → (I1 25 = some (nI (f0 + k))) → (FK n f I1 R1) → (SYT tx cN A I1 R1) → (RPV f n E tx N I1 R1) → (KX I1 R1) → (FN 28 29 f n E tx B f0 k I1 R1) → (k ≤ by2 f pF) → (k < by2 f pF → p = B.getD k 0) → (p ≤ n) → (flS f n E cf B (B.length - k) k = flS f n E cf B B.length 0) →  pl (mT g) kf (mb_189 g).2 (22, [(0, .ref m0), (1, .int (nI p)), (2, .int (nI (by2 f pF))), (3, .int (nI f0)), (4, .int (nI k))], [], M1) (fun v M' => (∃  (I' : rI) (R' : rR), (flS f n E cf B B.length 0 = none) ∧ v = some (.int 1) ∧ RS g m0 q z I' R' M' ∧ eqI [25, 47, 48] I I' ∧ eqR [27, 28, 29, 30, 31, 32, 33] R R' ∧ I' 25 = some (nI (f0 + B.length))) ∨ (∃ (e9 : Nat × Nat) (I' : rI) (R' : rR), (flS f n E cf B B.length 0 = some e9) ∧ v = some (.int 0) ∧ RS g m0 q z I' R' M' ∧ eqI [25, 47, 48] I I' ∧ eqR [27, 28, 29, 30, 31, 32, 33] R R' ∧ I' 47 = some (nI e9.1) ∧ I' 48 = some (nI e9.2)))) ∧ (∀ (k p j a d : Nat) (M1 : mi_H) (I1 : rI) (R1 : rR), (RS g m0 q z I1 R1 M1) → (eqI [25, 47, 48] I I1) → (eqR [27, 28, 29, 30, 31, 32, 33] R R1) → (I1 51 = some 0) → (I1 52 = some (nI N)) → (I1 53 = some (nI mj)) → (I1 58 = some (nI cf)) → (I1 55 = some (nI pF)) → (I1 25 = some (nI (f0 + k))) → (FK n f I1 R1) → (SYT tx cN A I1 R1) → (RPV f n E tx N I1 R1) → (KX I1 R1) → (FN 28 29 f n E tx B f0 k I1 R1) → (CE 27 (f0 + k) (nI (by2 f p)) I1 R1) → (CE 28 (f0 + k) (nI a) I1 R1) → (CE 29 (f0 + k) (nI d) I1 R1) → (k < by2 f pF) → (p = B.getD k 0) → (p + 8 ≤ n) → (flS f n E cf B (B.length - k) k = flS f n E cf B B.length 0) → (j ≤ k) → (f0 + k < 8300) → (a < tx.length ∧ tx.getD a [] = tX f n E (by2 f (p + 2))) → (d < tx.length ∧ tx.getD d [] = tX f n E (by2 f (p + 4))) → (tg f E (by2 f (p + 2)) = 1) → (tg f E (by2 f (p + 4)) = 1) → (¬ fflN cf (by2 f p) = 0) → (¬ unqN (tX f n E (by2 f (p + 2))) = 0) → (¬ fldN (tX f n E (by2 f (p + 4))) = 0) → (smeS f n E B (by2 f (p + 2)) (by2 f (p + 4)) (k - j) j = smeS f n E B (by2 f (p + 2)) (by2 f (p + 4)) k 0) →  pl (mT g) kf (mb_189 g).2 (277, [(0, .ref m0), (1, .int (nI p)), (2, .int (nI (by2 f pF))), (3, .int (nI f0)), (4, .int (nI k)), (6, .int (nI (f0 + k))), (7, .int (nI (f0 + j)))], [], M1) (fun v M' => (∃  (I' : rI) (R' : rR), (flS f n E cf B B.length 0 = none) ∧ v = some (.int 1) ∧ RS g m0 q z I' R' M' ∧ eqI [25, 47, 48] I I' ∧ eqR [27, 28, 29, 30, 31, 32, 33] R R' ∧ I' 25 = some (nI (f0 + B.length))) ∨ (∃ (e9 : Nat × Nat) (I' : rI) (R' : rR), (flS f n E cf B B.length 0 = some e9) ∧ v = some (.int 0) ∧ RS g m0 q z I' R' M' ∧ eqI [25, 47, 48] I I' ∧ eqR [27, 28, 29, 30, 31, 32, 33] R R' ∧ I' 47 = some (nI e9.1) ∧ I' 48 = some (nI e9.2)))) := by
    intro kf
    induction kf with
    | zero => exact ⟨by intros; exact pl_0, by intros; exact pl_0⟩
    | succ kf ih =>
      refine ⟨?_, ?_⟩
      · skip
        intro k p M1 I1 R1 hR1 hEI1 hER1 hl51 hl52 hl53 hl58 hl55 hl25 hF1 hY1 hP1 hK1 hN91 hk hp hpn hs
        have hn := hF1.1
        have hu9 := by2_lt f pF
        have htl := hY1.1.2.2.1
        have hBl := hMB.1
        refine ps_st1 (S' := (24, [(0, .ref m0), (1, .int (nI p)), (2, .int (nI (by2 f pF))), (3, .int (nI f0)), (4, .int (nI k))], [.int (nI k)], M1)) rfl rfl rfl ?_
        refine ps_st (S' := (25, [(0, .ref m0), (1, .int (nI p)), (2, .int (nI (by2 f pF))), (3, .int (nI f0)), (4, .int (nI k))], [.int (nI (by2 f pF)), .int (nI k)], M1)) rfl rfl rfl ?_
        refine ps_if2 (S1 := (366, [(0, .ref m0), (1, .int (nI p)), (2, .int (nI (by2 f pF))), (3, .int (nI f0)), (4, .int (nI k))], [], M1)) (S2 := (28, [(0, .ref m0), (1, .int (nI p)), (2, .int (nI (by2 f pF))), (3, .int (nI f0)), (4, .int (nI k))], [], M1)) rfl rfl rfl (fun c_25 => ?_) (fun c_25 => ?_)
        · have c_25 : (nI (by2 f pF)) ≤ (nI k) := of_decide_eq_true c_25
          have n_25 : by2 f pF ≤ k := (le_nI (p := by2 f pF) (n := k) (Nat.lt_trans (by2_lt _ _) (by decide)) (by omega)).mp c_25
          refine ps_st (S' := (367, [(0, .ref m0), (1, .int (nI p)), (2, .int (nI (by2 f pF))), (3, .int (nI f0)), (4, .int (nI k))], [.int 1], M1)) rfl rfl rfl ?_
          exact ps_ret rfl rfl (Or.inl ⟨I1, R1, by
              rw [← hs, show B.length - k = 0 by omega]
              rfl, rfl, hR1, hEI1, hER1, by rw [show B.length = k by omega]; exact hl25⟩)
        · have c_25 : ¬ ((nI (by2 f pF)) ≤ (nI k)) := of_decide_eq_false c_25
          have n_25 : ¬ (by2 f pF ≤ k) := fun h9 => c_25 ((le_nI (p := by2 f pF) (n := k) (Nat.lt_trans (by2_lt _ _) (by decide)) (by omega)).mpr h9)
          have hpk := hp (by omega)
          have hm8 := (hMB.2.2.2 k (by omega)).1
          have hm7 := (hMB.2.2.2 k (by omega)).2.1
          rw [← hpk] at hm8
          have hpe : p + 8 ≤ n := by omega
          have hu8 := by2_lt f p
          refine ps_st (S' := (29, [(0, .ref m0), (1, .int (nI p)), (2, .int (nI (by2 f pF))), (3, .int (nI f0)), (4, .int (nI k))], [.ref m0], M1)) rfl rfl rfl ?_
          refine ps_st (S' := (30, [(0, .ref m0), (1, .int (nI p)), (2, .int (nI (by2 f pF))), (3, .int (nI f0)), (4, .int (nI k))], [.int (nI p), .ref m0], M1)) rfl rfl rfl ?_
          refine pl_call (a := [.ref m0, .int (nI p)]) (rest := []) rfl rfl rfl (rd_u2 (n := n) (f := f) (p := p) hR1 hF1 (by omega)) (fun v1 M2 q3 => ?_)
          obtain ⟨rfl, rfl⟩ := q3
          show pl _ _ _ (33, [(0, .ref m0), (1, .int (nI p)), (2, .int (nI (by2 f pF))), (3, .int (nI f0)), (4, .int (nI k))], [.int (nI (by2 f p))], M1) _
          have hu_30 := by2_lt f p
          refine ps_st (S' := (35, [(5, .int (nI (by2 f p))), (0, .ref m0), (1, .int (nI p)), (2, .int (nI (by2 f pF))), (3, .int (nI f0)), (4, .int (nI k))], [], M1)) rfl rfl rfl ?_
          refine ps_st (S' := (37, [(5, .int (nI (by2 f p))), (0, .ref m0), (1, .int (nI p)), (2, .int (nI (by2 f pF))), (3, .int (nI f0)), (4, .int (nI k))], [.int (nI (by2 f p))], M1)) rfl rfl rfl ?_
          refine ps_st (S' := (38, [(5, .int (nI (by2 f p))), (0, .ref m0), (1, .int (nI p)), (2, .int (nI (by2 f pF))), (3, .int (nI f0)), (4, .int (nI k))], [.int 1, .int (nI (by2 f p))], M1)) rfl rfl rfl ?_
          refine ps_st (S' := (39, [(5, .int (nI (by2 f p))), (0, .ref m0), (1, .int (nI p)), (2, .int (nI (by2 f pF))), (3, .int (nI f0)), (4, .int (nI k))], [.int 2, .int 1, .int (nI (by2 f p))], M1)) rfl rfl rfl ?_
          refine ps_st (S' := (40, [(5, .int (nI (by2 f p))), (0, .ref m0), (1, .int (nI p)), (2, .int (nI (by2 f pF))), (3, .int (nI f0)), (4, .int (nI k))], [.int 4, .int 2, .int 1, .int (nI (by2 f p))], M1)) rfl rfl rfl ?_
          refine pl_call (a := [.int (nI (by2 f p)), .int 1, .int 2, .int 4]) (rest := []) rfl rfl rfl (rd_several (x := (by2 f p))) (fun v4 M5 q6 => ?_)
          obtain ⟨rfl, rfl⟩ := q6
          show pl _ _ _ (43, [(5, .int (nI (by2 f p))), (0, .ref m0), (1, .int (nI p)), (2, .int (nI (by2 f pF))), (3, .int (nI f0)), (4, .int (nI k))], [.int (nI (sevN (by2 f p)))], M1) _
          refine ps_if (S1 := (84, [(0, .ref m0), (1, .int (nI p))], [], M1)) (S2 := (46, [(5, .int (nI (by2 f p))), (0, .ref m0), (1, .int (nI p)), (2, .int (nI (by2 f pF))), (3, .int (nI f0)), (4, .int (nI k))], [], M1)) rfl rfl rfl (fun c_43 => ?_) (fun c_43 => ?_)
          · have c_43 : ¬ (nI (sevN (by2 f p))) = 0 := of_decide_eq_true c_43
            have n_43 : ¬ (sevN (by2 f p) = 0) := fun h9 => c_43 ((eq_nI (p := sevN (by2 f p)) (n := 0) (Nat.lt_trans (le1_sev _) (by decide)) (by decide)).mpr h9)
            refine ps_st (S' := (85, [(0, .ref m0), (1, .int (nI p))], [.ref m0], M1)) rfl rfl rfl ?_
            refine ps_st (S' := (87, [(0, .ref m0), (1, .int (nI p))], [.int 19, .ref m0], M1)) rfl rfl rfl ?_
            refine ps_st (S' := (88, [(0, .ref m0), (1, .int (nI p))], [.int (nI p), .int 19, .ref m0], M1)) rfl rfl rfl ?_
            refine pl_call (a := [.ref m0, .int 19, .int (nI p)]) (rest := []) rfl rfl rfl (rd_wrong (x1 := 19) (x2 := (nI p)) hR1) (fun v7 M8 q9 => ?_)
            obtain ⟨I10, R11, rfl, hR12, hI13, hX14, hi15, hi16⟩ := q9
            have hi17 := (hI13 51 (by decide)).trans hl51
            have hi18 := (hI13 52 (by decide)).trans hl52
            have hi19 := (hI13 53 (by decide)).trans hl53
            have hi20 := (hI13 58 (by decide)).trans hl58
            have hi21 := (hI13 55 (by decide)).trans hl55
            have hi22 := (hI13 25 (by decide)).trans hl25
            have hF_23 := hF1.mono (cIx hI13 (by decide)) (cRx hX14 (by decide))
            have hY_24 := hY1.mono (cIx hI13 (by decide)) (cRx hX14 (by decide))
            have hP_25 := hP1.mono (cIx hI13 (by decide)) (cRx hX14 (by decide))
            have hK_26 := hK1.mono (cIx hI13 (by decide)) (cRx hX14 (by decide))
            have hN9_27 := hN91.mono (cIx hI13 (by decide)) (cRx hX14 (by decide))
            have hEI28 := hEI1.tr hI13 (by decide)
            have hER29 := hER1.tr hX14 (by decide)
            show pl _ _ _ (91, [(0, .ref m0), (1, .int (nI p))], [.int 0], M8) _
            exact ps_ret rfl rfl (Or.inr ⟨(19, p), I10, R11, by
                rw [← hs, flS_st (i := k) (by omega), ← hpk, fh_19 (by have e1 := ffl_0 cf (by2 f p); have e2 := sev_0 (by2 f p); have e3 := hall_80 (by2 f p); omega)], rfl, hR12, hEI28, hER29, hi15, hi16⟩)
          · have c_43 : ¬ (¬ (nI (sevN (by2 f p))) = 0) := of_decide_eq_false c_43
            have n_43 : sevN (by2 f p) = 0 := (eq_nI (p := sevN (by2 f p)) (n := 0) (Nat.lt_trans (le1_sev _) (by decide)) (by decide)).mp (Decidable.not_not.mp c_43)
            refine ps_st (S' := (48, [(5, .int (nI (by2 f p))), (0, .ref m0), (1, .int (nI p)), (2, .int (nI (by2 f pF))), (3, .int (nI f0)), (4, .int (nI k))], [.int (nI (by2 f p))], M1)) rfl rfl rfl ?_
            refine ps_st (S' := (50, [(5, .int (nI (by2 f p))), (0, .ref m0), (1, .int (nI p)), (2, .int (nI (by2 f pF))), (3, .int (nI f0)), (4, .int (nI k))], [.int 16, .int (nI (by2 f p))], M1)) rfl rfl rfl ?_
            refine ps_st (S' := (51, [(5, .int (nI (by2 f p))), (0, .ref m0), (1, .int (nI p)), (2, .int (nI (by2 f pF))), (3, .int (nI f0)), (4, .int (nI k))], [.int ((nI (by2 f p)) &&& 16)], M1)) rfl rfl rfl ?_
            rw [nI_an (p := by2 f p) (k := 16) (x := 16) rfl]
            show pl _ _ _ (_, [(5, .int (nI (by2 f p))), (0, .ref m0), (1, .int (nI p)), (2, .int (nI (by2 f pF))), (3, .int (nI f0)), (4, .int (nI k))], [.int (nI (aN (by2 f p) 16))], M1) _
            refine ps_if (S1 := (62, [(0, .ref m0), (1, .int (nI p)), (2, .int (nI (by2 f pF))), (3, .int (nI f0)), (4, .int (nI k)), (5, .int (nI (by2 f p)))], [], M1)) (S2 := (54, [(5, .int (nI (by2 f p))), (0, .ref m0), (1, .int (nI p)), (2, .int (nI (by2 f pF))), (3, .int (nI f0)), (4, .int (nI k))], [], M1)) rfl rfl rfl (fun c_51 => ?_) (fun c_51 => ?_)
            · have c_51 : (nI (aN (by2 f p) 16)) = 0 := of_decide_eq_true c_51
              have n_51 : aN (by2 f p) 16 = 0 := (eq_nI (p := aN (by2 f p) 16) (n := 0) (Nat.lt_of_le_of_lt (an_le _ _) (by decide)) (by decide)).mp c_51
              refine ps_st (S' := (63, [(0, .ref m0), (1, .int (nI p)), (2, .int (nI (by2 f pF))), (3, .int (nI f0)), (4, .int (nI k)), (5, .int (nI (by2 f p)))], [.ref m0], M1)) rfl rfl rfl ?_
              refine pr_int (j := 58) (S' := (66, [(0, .ref m0), (1, .int (nI p)), (2, .int (nI (by2 f pF))), (3, .int (nI f0)), (4, .int (nI k)), (5, .int (nI (by2 f p)))], [.int (nI cf)], M1)) rfl hR1 rfl hl58 rfl ?_
              refine ps_st (S' := (69, [(0, .ref m0), (1, .int (nI p)), (2, .int (nI (by2 f pF))), (3, .int (nI f0)), (4, .int (nI k)), (5, .int (nI (by2 f p)))], [.int 512, .int (nI cf)], M1)) rfl rfl rfl ?_
              refine ps_st (S' := (70, [(0, .ref m0), (1, .int (nI p)), (2, .int (nI (by2 f pF))), (3, .int (nI f0)), (4, .int (nI k)), (5, .int (nI (by2 f p)))], [.int ((nI cf) &&& 512)], M1)) rfl rfl rfl ?_
              rw [nI_an (p := cf) (k := 512) (x := 512) rfl]
              show pl _ _ _ (_, [(0, .ref m0), (1, .int (nI p)), (2, .int (nI (by2 f pF))), (3, .int (nI f0)), (4, .int (nI k)), (5, .int (nI (by2 f p)))], [.int (nI (aN cf 512))], M1) _
              refine ps_if (S1 := (92, [(0, .ref m0), (1, .int (nI p)), (2, .int (nI (by2 f pF))), (3, .int (nI f0)), (4, .int (nI k)), (5, .int (nI (by2 f p)))], [], M1)) (S2 := (73, [(0, .ref m0), (1, .int (nI p)), (2, .int (nI (by2 f pF))), (3, .int (nI f0)), (4, .int (nI k)), (5, .int (nI (by2 f p)))], [], M1)) rfl rfl rfl (fun c_70 => ?_) (fun c_70 => ?_)
              · have c_70 : (nI (aN cf 512)) = 0 := of_decide_eq_true c_70
                have n_70 : aN cf 512 = 0 := (eq_nI (p := aN cf 512) (n := 0) (Nat.lt_of_le_of_lt (an_le _ _) (by decide)) (by decide)).mp c_70
                refine ps_st (S' := (93, [(0, .ref m0), (1, .int (nI p)), (2, .int (nI (by2 f pF))), (3, .int (nI f0)), (4, .int (nI k)), (5, .int (nI (by2 f p)))], [.ref m0], M1)) rfl rfl rfl ?_
                refine ps_st (S' := (94, [(0, .ref m0), (1, .int (nI p)), (2, .int (nI (by2 f pF))), (3, .int (nI f0)), (4, .int (nI k)), (5, .int (nI (by2 f p)))], [.ref m0, .ref m0], M1)) rfl rfl rfl ?_
                refine ps_st (S' := (95, [(0, .ref m0), (1, .int (nI p)), (2, .int (nI (by2 f pF))), (3, .int (nI f0)), (4, .int (nI k)), (5, .int (nI (by2 f p)))], [.int (nI p), .ref m0, .ref m0], M1)) rfl rfl rfl ?_
                refine ps_st (S' := (96, [(0, .ref m0), (1, .int (nI p)), (2, .int (nI (by2 f pF))), (3, .int (nI f0)), (4, .int (nI k)), (5, .int (nI (by2 f p)))], [.int 2, .int (nI p), .ref m0, .ref m0], M1)) rfl rfl rfl ?_
                refine ps_st (S' := (97, [(0, .ref m0), (1, .int (nI p)), (2, .int (nI (by2 f pF))), (3, .int (nI f0)), (4, .int (nI k)), (5, .int (nI (by2 f p)))], [.int ((nI p) + 2), .ref m0, .ref m0], M1)) rfl rfl rfl ?_
                rw [nI_add1 (p := p) (k := 2) (x := 2) rfl (by omega)]
                show pl _ _ _ (_, [(0, .ref m0), (1, .int (nI p)), (2, .int (nI (by2 f pF))), (3, .int (nI f0)), (4, .int (nI k)), (5, .int (nI (by2 f p)))], [.int (nI (p + 2)), .ref m0, .ref m0], M1) _
                refine pl_call (a := [.ref m0, .int (nI (p + 2))]) (rest := [.ref m0]) rfl rfl rfl (rd_u2 (n := n) (f := f) (p := (p + 2)) hR1 hF1 (by omega)) (fun v30 M31 q32 => ?_)
                obtain ⟨rfl, rfl⟩ := q32
                show pl _ _ _ (100, [(0, .ref m0), (1, .int (nI p)), (2, .int (nI (by2 f pF))), (3, .int (nI f0)), (4, .int (nI k)), (5, .int (nI (by2 f p)))], [.int (nI (by2 f (p + 2))), .ref m0], M1) _
                have hu_97 := by2_lt f (p + 2)
                refine pl_call (a := [.ref m0, .int (nI (by2 f (p + 2)))]) (rest := []) rfl rfl rfl (rd_tag (n := n) (f := f) (tx := tx) (cN := cN) (A := A) (N := N) (mj := mj) (E := E) (k := (by2 f (p + 2))) hR1 hl51 hl52 hl53 hF1 hY1 hP1 (hEP) (hN) (hmj) (by2_lt _ _)) (fun v33 M34 q35 => ?_)
                obtain ⟨rfl, rfl⟩ := q35
                show pl _ _ _ (103, [(0, .ref m0), (1, .int (nI p)), (2, .int (nI (by2 f pF))), (3, .int (nI f0)), (4, .int (nI k)), (5, .int (nI (by2 f p)))], [.int (nI (tg f E (by2 f (p + 2))))], M1) _
                have htg_100 := tg_lt f E (by2 f (p + 2))
                refine ps_st (S' := (104, [(0, .ref m0), (1, .int (nI p)), (2, .int (nI (by2 f pF))), (3, .int (nI f0)), (4, .int (nI k)), (5, .int (nI (by2 f p)))], [.int 1, .int (nI (tg f E (by2 f (p + 2))))], M1)) rfl rfl rfl ?_
                refine ps_if2 (S1 := (126, [(0, .ref m0), (1, .int (nI p))], [], M1)) (S2 := (107, [(0, .ref m0), (1, .int (nI p)), (2, .int (nI (by2 f pF))), (3, .int (nI f0)), (4, .int (nI k)), (5, .int (nI (by2 f p)))], [], M1)) rfl rfl rfl (fun c_104 => ?_) (fun c_104 => ?_)
                · have c_104 : ¬ (nI (tg f E (by2 f (p + 2)))) = 1 := of_decide_eq_true c_104
                  have n_104 : ¬ (tg f E (by2 f (p + 2)) = 1) := fun h9 => c_104 ((eq_nI (p := tg f E (by2 f (p + 2))) (n := 1) (Nat.lt_trans (tg_lt _ _ _) (by decide)) (by decide)).mpr h9)
                  refine ps_st (S' := (127, [(0, .ref m0), (1, .int (nI p))], [.ref m0], M1)) rfl rfl rfl ?_
                  refine ps_st (S' := (129, [(0, .ref m0), (1, .int (nI p))], [.int 20, .ref m0], M1)) rfl rfl rfl ?_
                  refine ps_st (S' := (130, [(0, .ref m0), (1, .int (nI p))], [.int (nI p), .int 20, .ref m0], M1)) rfl rfl rfl ?_
                  refine ps_st (S' := (131, [(0, .ref m0), (1, .int (nI p))], [.int 2, .int (nI p), .int 20, .ref m0], M1)) rfl rfl rfl ?_
                  refine ps_st (S' := (132, [(0, .ref m0), (1, .int (nI p))], [.int ((nI p) + 2), .int 20, .ref m0], M1)) rfl rfl rfl ?_
                  rw [nI_add1 (p := p) (k := 2) (x := 2) rfl (by omega)]
                  show pl _ _ _ (_, [(0, .ref m0), (1, .int (nI p))], [.int (nI (p + 2)), .int 20, .ref m0], M1) _
                  refine pl_call (a := [.ref m0, .int 20, .int (nI (p + 2))]) (rest := []) rfl rfl rfl (rd_wrong (x1 := 20) (x2 := (nI (p + 2))) hR1) (fun v36 M37 q38 => ?_)
                  obtain ⟨I39, R40, rfl, hR41, hI42, hX43, hi44, hi45⟩ := q38
                  have hi46 := (hI42 51 (by decide)).trans hl51
                  have hi47 := (hI42 52 (by decide)).trans hl52
                  have hi48 := (hI42 53 (by decide)).trans hl53
                  have hi49 := (hI42 58 (by decide)).trans hl58
                  have hi50 := (hI42 55 (by decide)).trans hl55
                  have hi54 := (hI42 25 (by decide)).trans hl25
                  have hF_55 := hF1.mono (cIx hI42 (by decide)) (cRx hX43 (by decide))
                  have hY_56 := hY1.mono (cIx hI42 (by decide)) (cRx hX43 (by decide))
                  have hP_57 := hP1.mono (cIx hI42 (by decide)) (cRx hX43 (by decide))
                  have hK_58 := hK1.mono (cIx hI42 (by decide)) (cRx hX43 (by decide))
                  have hN9_59 := hN91.mono (cIx hI42 (by decide)) (cRx hX43 (by decide))
                  have hEI60 := hEI1.tr hI42 (by decide)
                  have hER61 := hER1.tr hX43 (by decide)
                  show pl _ _ _ (135, [(0, .ref m0), (1, .int (nI p))], [.int 0], M37) _
                  exact ps_ret rfl rfl (Or.inr ⟨(20, p + 2), I39, R40, by
                      rw [← hs, flS_st (i := k) (by omega), ← hpk, fh_20 (by have e1 := ffl_0 cf (by2 f p); have e2 := sev_0 (by2 f p); have e3 := hall_80 (by2 f p); omega) (by rw [tx_no (by omega)]; decide)], rfl, hR41, hEI60, hER61, hi44, hi45⟩)
                · have c_104 : ¬ (¬ (nI (tg f E (by2 f (p + 2)))) = 1) := of_decide_eq_false c_104
                  have n_104 : tg f E (by2 f (p + 2)) = 1 := (eq_nI (p := tg f E (by2 f (p + 2))) (n := 1) (Nat.lt_trans (tg_lt _ _ _) (by decide)) (by decide)).mp (Decidable.not_not.mp c_104)
                  refine ps_st (S' := (108, [(0, .ref m0), (1, .int (nI p)), (2, .int (nI (by2 f pF))), (3, .int (nI f0)), (4, .int (nI k)), (5, .int (nI (by2 f p)))], [.ref m0], M1)) rfl rfl rfl ?_
                  refine ps_st (S' := (109, [(0, .ref m0), (1, .int (nI p)), (2, .int (nI (by2 f pF))), (3, .int (nI f0)), (4, .int (nI k)), (5, .int (nI (by2 f p)))], [.ref m0, .ref m0], M1)) rfl rfl rfl ?_
                  refine ps_st (S' := (110, [(0, .ref m0), (1, .int (nI p)), (2, .int (nI (by2 f pF))), (3, .int (nI f0)), (4, .int (nI k)), (5, .int (nI (by2 f p)))], [.ref m0, .ref m0, .ref m0], M1)) rfl rfl rfl ?_
                  refine ps_st (S' := (111, [(0, .ref m0), (1, .int (nI p)), (2, .int (nI (by2 f pF))), (3, .int (nI f0)), (4, .int (nI k)), (5, .int (nI (by2 f p)))], [.int (nI p), .ref m0, .ref m0, .ref m0], M1)) rfl rfl rfl ?_
                  refine ps_st (S' := (112, [(0, .ref m0), (1, .int (nI p)), (2, .int (nI (by2 f pF))), (3, .int (nI f0)), (4, .int (nI k)), (5, .int (nI (by2 f p)))], [.int 2, .int (nI p), .ref m0, .ref m0, .ref m0], M1)) rfl rfl rfl ?_
                  refine ps_st (S' := (113, [(0, .ref m0), (1, .int (nI p)), (2, .int (nI (by2 f pF))), (3, .int (nI f0)), (4, .int (nI k)), (5, .int (nI (by2 f p)))], [.int ((nI p) + 2), .ref m0, .ref m0, .ref m0], M1)) rfl rfl rfl ?_
                  rw [nI_add1 (p := p) (k := 2) (x := 2) rfl (by omega)]
                  show pl _ _ _ (_, [(0, .ref m0), (1, .int (nI p)), (2, .int (nI (by2 f pF))), (3, .int (nI f0)), (4, .int (nI k)), (5, .int (nI (by2 f p)))], [.int (nI (p + 2)), .ref m0, .ref m0, .ref m0], M1) _
                  refine pl_call (a := [.ref m0, .int (nI (p + 2))]) (rest := [.ref m0, .ref m0]) rfl rfl rfl (rd_u2 (n := n) (f := f) (p := (p + 2)) hR1 hF1 (by omega)) (fun v62 M63 q64 => ?_)
                  obtain ⟨rfl, rfl⟩ := q64
                  show pl _ _ _ (116, [(0, .ref m0), (1, .int (nI p)), (2, .int (nI (by2 f pF))), (3, .int (nI f0)), (4, .int (nI k)), (5, .int (nI (by2 f p)))], [.int (nI (by2 f (p + 2))), .ref m0, .ref m0], M1) _
                  have hu_113 := by2_lt f (p + 2)
                  refine pl_call (a := [.ref m0, .int (nI (by2 f (p + 2)))]) (rest := [.ref m0]) rfl rfl rfl (rd_symOf (n := n) (f := f) (tx := tx) (cN := cN) (A := A) (N := N) (mj := mj) (E := E) (k := (by2 f (p + 2))) hR1 hl51 hl52 hl53 hF1 hY1 hP1 (hEP) (hN) (hmj) (by omega)) (fun v65 M66 q67 => ?_)
                  obtain ⟨s68, q116_s, rfl, rfl⟩ := q67
                  show pl _ _ _ (119, [(0, .ref m0), (1, .int (nI p)), (2, .int (nI (by2 f pF))), (3, .int (nI f0)), (4, .int (nI k)), (5, .int (nI (by2 f p)))], [.int (nI s68), .ref m0], M1) _
                  have hsl_116 := q116_s.1
                  have htl_116 := hY1.1.2.2.1
                  refine ps_st (S' := (120, [(0, .ref m0), (1, .int (nI p)), (2, .int (nI (by2 f pF))), (3, .int (nI f0)), (4, .int (nI k)), (5, .int (nI (by2 f p)))], [.int 1, .int (nI s68), .ref m0], M1)) rfl rfl rfl ?_
                  refine pl_call (a := [.ref m0, .int (nI s68), .int 1]) (rest := []) rfl rfl rfl (rd_unq1 (tx := tx) (cN := cN) (A := A) (s := s68) (l := (tX f n E (by2 f (p + 2)))) hR1 hY1 (q116_s)) (fun v69 M70 q71 => ?_)
                  obtain ⟨rfl, rfl⟩ := q71
                  show pl _ _ _ (123, [(0, .ref m0), (1, .int (nI p)), (2, .int (nI (by2 f pF))), (3, .int (nI f0)), (4, .int (nI k)), (5, .int (nI (by2 f p)))], [.int (nI (unqN (tX f n E (by2 f (p + 2)))))], M1) _
                  refine ps_if (S1 := (136, [(0, .ref m0), (1, .int (nI p)), (2, .int (nI (by2 f pF))), (3, .int (nI f0)), (4, .int (nI k)), (5, .int (nI (by2 f p)))], [], M1)) (S2 := (126, [(0, .ref m0), (1, .int (nI p))], [], M1)) rfl rfl rfl (fun c_123 => ?_) (fun c_123 => ?_)
                  · have c_123 : ¬ (nI (unqN (tX f n E (by2 f (p + 2))))) = 0 := of_decide_eq_true c_123
                    have n_123 : ¬ (unqN (tX f n E (by2 f (p + 2))) = 0) := fun h9 => c_123 ((eq_nI (p := unqN (tX f n E (by2 f (p + 2)))) (n := 0) (Nat.lt_trans (le1_unq _) (by decide)) (by decide)).mpr h9)
                    refine ps_st (S' := (137, [(0, .ref m0), (1, .int (nI p)), (2, .int (nI (by2 f pF))), (3, .int (nI f0)), (4, .int (nI k)), (5, .int (nI (by2 f p)))], [.ref m0], M1)) rfl rfl rfl ?_
                    refine ps_st (S' := (138, [(0, .ref m0), (1, .int (nI p)), (2, .int (nI (by2 f pF))), (3, .int (nI f0)), (4, .int (nI k)), (5, .int (nI (by2 f p)))], [.ref m0, .ref m0], M1)) rfl rfl rfl ?_
                    refine ps_st (S' := (139, [(0, .ref m0), (1, .int (nI p)), (2, .int (nI (by2 f pF))), (3, .int (nI f0)), (4, .int (nI k)), (5, .int (nI (by2 f p)))], [.int (nI p), .ref m0, .ref m0], M1)) rfl rfl rfl ?_
                    refine ps_st (S' := (140, [(0, .ref m0), (1, .int (nI p)), (2, .int (nI (by2 f pF))), (3, .int (nI f0)), (4, .int (nI k)), (5, .int (nI (by2 f p)))], [.int 4, .int (nI p), .ref m0, .ref m0], M1)) rfl rfl rfl ?_
                    refine ps_st (S' := (141, [(0, .ref m0), (1, .int (nI p)), (2, .int (nI (by2 f pF))), (3, .int (nI f0)), (4, .int (nI k)), (5, .int (nI (by2 f p)))], [.int ((nI p) + 4), .ref m0, .ref m0], M1)) rfl rfl rfl ?_
                    rw [nI_add1 (p := p) (k := 4) (x := 4) rfl (by omega)]
                    show pl _ _ _ (_, [(0, .ref m0), (1, .int (nI p)), (2, .int (nI (by2 f pF))), (3, .int (nI f0)), (4, .int (nI k)), (5, .int (nI (by2 f p)))], [.int (nI (p + 4)), .ref m0, .ref m0], M1) _
                    refine pl_call (a := [.ref m0, .int (nI (p + 4))]) (rest := [.ref m0]) rfl rfl rfl (rd_u2 (n := n) (f := f) (p := (p + 4)) hR1 hF1 (by omega)) (fun v72 M73 q74 => ?_)
                    obtain ⟨rfl, rfl⟩ := q74
                    show pl _ _ _ (144, [(0, .ref m0), (1, .int (nI p)), (2, .int (nI (by2 f pF))), (3, .int (nI f0)), (4, .int (nI k)), (5, .int (nI (by2 f p)))], [.int (nI (by2 f (p + 4))), .ref m0], M1) _
                    have hu_141 := by2_lt f (p + 4)
                    refine pl_call (a := [.ref m0, .int (nI (by2 f (p + 4)))]) (rest := []) rfl rfl rfl (rd_tag (n := n) (f := f) (tx := tx) (cN := cN) (A := A) (N := N) (mj := mj) (E := E) (k := (by2 f (p + 4))) hR1 hl51 hl52 hl53 hF1 hY1 hP1 (hEP) (hN) (hmj) (by2_lt _ _)) (fun v75 M76 q77 => ?_)
                    obtain ⟨rfl, rfl⟩ := q77
                    show pl _ _ _ (147, [(0, .ref m0), (1, .int (nI p)), (2, .int (nI (by2 f pF))), (3, .int (nI f0)), (4, .int (nI k)), (5, .int (nI (by2 f p)))], [.int (nI (tg f E (by2 f (p + 4))))], M1) _
                    have htg_144 := tg_lt f E (by2 f (p + 4))
                    refine ps_st (S' := (148, [(0, .ref m0), (1, .int (nI p)), (2, .int (nI (by2 f pF))), (3, .int (nI f0)), (4, .int (nI k)), (5, .int (nI (by2 f p)))], [.int 1, .int (nI (tg f E (by2 f (p + 4))))], M1)) rfl rfl rfl ?_
                    refine ps_if2 (S1 := (169, [(0, .ref m0), (1, .int (nI p))], [], M1)) (S2 := (151, [(0, .ref m0), (1, .int (nI p)), (2, .int (nI (by2 f pF))), (3, .int (nI f0)), (4, .int (nI k)), (5, .int (nI (by2 f p)))], [], M1)) rfl rfl rfl (fun c_148 => ?_) (fun c_148 => ?_)
                    · have c_148 : ¬ (nI (tg f E (by2 f (p + 4)))) = 1 := of_decide_eq_true c_148
                      have n_148 : ¬ (tg f E (by2 f (p + 4)) = 1) := fun h9 => c_148 ((eq_nI (p := tg f E (by2 f (p + 4))) (n := 1) (Nat.lt_trans (tg_lt _ _ _) (by decide)) (by decide)).mpr h9)
                      refine ps_st (S' := (170, [(0, .ref m0), (1, .int (nI p))], [.ref m0], M1)) rfl rfl rfl ?_
                      refine ps_st (S' := (172, [(0, .ref m0), (1, .int (nI p))], [.int 21, .ref m0], M1)) rfl rfl rfl ?_
                      refine ps_st (S' := (173, [(0, .ref m0), (1, .int (nI p))], [.int (nI p), .int 21, .ref m0], M1)) rfl rfl rfl ?_
                      refine ps_st (S' := (174, [(0, .ref m0), (1, .int (nI p))], [.int 4, .int (nI p), .int 21, .ref m0], M1)) rfl rfl rfl ?_
                      refine ps_st (S' := (175, [(0, .ref m0), (1, .int (nI p))], [.int ((nI p) + 4), .int 21, .ref m0], M1)) rfl rfl rfl ?_
                      rw [nI_add1 (p := p) (k := 4) (x := 4) rfl (by omega)]
                      show pl _ _ _ (_, [(0, .ref m0), (1, .int (nI p))], [.int (nI (p + 4)), .int 21, .ref m0], M1) _
                      refine pl_call (a := [.ref m0, .int 21, .int (nI (p + 4))]) (rest := []) rfl rfl rfl (rd_wrong (x1 := 21) (x2 := (nI (p + 4))) hR1) (fun v78 M79 q80 => ?_)
                      obtain ⟨I81, R82, rfl, hR83, hI84, hX85, hi86, hi87⟩ := q80
                      have hi88 := (hI84 51 (by decide)).trans hl51
                      have hi89 := (hI84 52 (by decide)).trans hl52
                      have hi90 := (hI84 53 (by decide)).trans hl53
                      have hi91 := (hI84 58 (by decide)).trans hl58
                      have hi92 := (hI84 55 (by decide)).trans hl55
                      have hi93 := (hI84 25 (by decide)).trans hl25
                      have hF_94 := hF1.mono (cIx hI84 (by decide)) (cRx hX85 (by decide))
                      have hY_95 := hY1.mono (cIx hI84 (by decide)) (cRx hX85 (by decide))
                      have hP_96 := hP1.mono (cIx hI84 (by decide)) (cRx hX85 (by decide))
                      have hK_97 := hK1.mono (cIx hI84 (by decide)) (cRx hX85 (by decide))
                      have hN9_98 := hN91.mono (cIx hI84 (by decide)) (cRx hX85 (by decide))
                      have hEI99 := hEI1.tr hI84 (by decide)
                      have hER100 := hER1.tr hX85 (by decide)
                      show pl _ _ _ (178, [(0, .ref m0), (1, .int (nI p))], [.int 0], M79) _
                      exact ps_ret rfl rfl (Or.inr ⟨(21, p + 4), I81, R82, by
                          rw [← hs, flS_st (i := k) (by omega), ← hpk, fh_21 (by have e1 := ffl_0 cf (by2 f p); have e2 := sev_0 (by2 f p); have e3 := hall_80 (by2 f p); omega) (by omega) (by rw [tx_no (by omega)]; decide)], rfl, hR83, hEI99, hER100, hi86, hi87⟩)
                    · have c_148 : ¬ (¬ (nI (tg f E (by2 f (p + 4)))) = 1) := of_decide_eq_false c_148
                      have n_148 : tg f E (by2 f (p + 4)) = 1 := (eq_nI (p := tg f E (by2 f (p + 4))) (n := 1) (Nat.lt_trans (tg_lt _ _ _) (by decide)) (by decide)).mp (Decidable.not_not.mp c_148)
                      refine ps_st (S' := (152, [(0, .ref m0), (1, .int (nI p)), (2, .int (nI (by2 f pF))), (3, .int (nI f0)), (4, .int (nI k)), (5, .int (nI (by2 f p)))], [.ref m0], M1)) rfl rfl rfl ?_
                      refine ps_st (S' := (153, [(0, .ref m0), (1, .int (nI p)), (2, .int (nI (by2 f pF))), (3, .int (nI f0)), (4, .int (nI k)), (5, .int (nI (by2 f p)))], [.ref m0, .ref m0], M1)) rfl rfl rfl ?_
                      refine ps_st (S' := (154, [(0, .ref m0), (1, .int (nI p)), (2, .int (nI (by2 f pF))), (3, .int (nI f0)), (4, .int (nI k)), (5, .int (nI (by2 f p)))], [.ref m0, .ref m0, .ref m0], M1)) rfl rfl rfl ?_
                      refine ps_st (S' := (155, [(0, .ref m0), (1, .int (nI p)), (2, .int (nI (by2 f pF))), (3, .int (nI f0)), (4, .int (nI k)), (5, .int (nI (by2 f p)))], [.int (nI p), .ref m0, .ref m0, .ref m0], M1)) rfl rfl rfl ?_
                      refine ps_st (S' := (156, [(0, .ref m0), (1, .int (nI p)), (2, .int (nI (by2 f pF))), (3, .int (nI f0)), (4, .int (nI k)), (5, .int (nI (by2 f p)))], [.int 4, .int (nI p), .ref m0, .ref m0, .ref m0], M1)) rfl rfl rfl ?_
                      refine ps_st (S' := (157, [(0, .ref m0), (1, .int (nI p)), (2, .int (nI (by2 f pF))), (3, .int (nI f0)), (4, .int (nI k)), (5, .int (nI (by2 f p)))], [.int ((nI p) + 4), .ref m0, .ref m0, .ref m0], M1)) rfl rfl rfl ?_
                      rw [nI_add1 (p := p) (k := 4) (x := 4) rfl (by omega)]
                      show pl _ _ _ (_, [(0, .ref m0), (1, .int (nI p)), (2, .int (nI (by2 f pF))), (3, .int (nI f0)), (4, .int (nI k)), (5, .int (nI (by2 f p)))], [.int (nI (p + 4)), .ref m0, .ref m0, .ref m0], M1) _
                      refine pl_call (a := [.ref m0, .int (nI (p + 4))]) (rest := [.ref m0, .ref m0]) rfl rfl rfl (rd_u2 (n := n) (f := f) (p := (p + 4)) hR1 hF1 (by omega)) (fun v101 M102 q103 => ?_)
                      obtain ⟨rfl, rfl⟩ := q103
                      show pl _ _ _ (160, [(0, .ref m0), (1, .int (nI p)), (2, .int (nI (by2 f pF))), (3, .int (nI f0)), (4, .int (nI k)), (5, .int (nI (by2 f p)))], [.int (nI (by2 f (p + 4))), .ref m0, .ref m0], M1) _
                      have hu_157 := by2_lt f (p + 4)
                      refine pl_call (a := [.ref m0, .int (nI (by2 f (p + 4)))]) (rest := [.ref m0]) rfl rfl rfl (rd_symOf (n := n) (f := f) (tx := tx) (cN := cN) (A := A) (N := N) (mj := mj) (E := E) (k := (by2 f (p + 4))) hR1 hl51 hl52 hl53 hF1 hY1 hP1 (hEP) (hN) (hmj) (by omega)) (fun v104 M105 q106 => ?_)
                      obtain ⟨s107, q160_s, rfl, rfl⟩ := q106
                      show pl _ _ _ (163, [(0, .ref m0), (1, .int (nI p)), (2, .int (nI (by2 f pF))), (3, .int (nI f0)), (4, .int (nI k)), (5, .int (nI (by2 f p)))], [.int (nI s107), .ref m0], M1) _
                      have hsl_160 := q160_s.1
                      have htl_160 := hY1.1.2.2.1
                      refine pl_call (a := [.ref m0, .int (nI s107)]) (rest := []) rfl rfl rfl (rd_isField (tx := tx) (cN := cN) (A := A) (s := s107) (l := (tX f n E (by2 f (p + 4)))) hR1 hY1 (q160_s)) (fun v108 M109 q110 => ?_)
                      obtain ⟨rfl, rfl⟩ := q110
                      show pl _ _ _ (166, [(0, .ref m0), (1, .int (nI p)), (2, .int (nI (by2 f pF))), (3, .int (nI f0)), (4, .int (nI k)), (5, .int (nI (by2 f p)))], [.int (nI (fldN (tX f n E (by2 f (p + 4)))))], M1) _
                      refine ps_if (S1 := (179, [(0, .ref m0), (1, .int (nI p)), (2, .int (nI (by2 f pF))), (3, .int (nI f0)), (4, .int (nI k)), (5, .int (nI (by2 f p)))], [], M1)) (S2 := (169, [(0, .ref m0), (1, .int (nI p))], [], M1)) rfl rfl rfl (fun c_166 => ?_) (fun c_166 => ?_)
                      · have c_166 : ¬ (nI (fldN (tX f n E (by2 f (p + 4))))) = 0 := of_decide_eq_true c_166
                        have n_166 : ¬ (fldN (tX f n E (by2 f (p + 4))) = 0) := fun h9 => c_166 ((eq_nI (p := fldN (tX f n E (by2 f (p + 4)))) (n := 0) (Nat.lt_trans (le1_fld _) (by decide)) (by decide)).mpr h9)
                        refine ps_st (S' := (180, [(0, .ref m0), (1, .int (nI p)), (2, .int (nI (by2 f pF))), (3, .int (nI f0)), (4, .int (nI k)), (5, .int (nI (by2 f p)))], [.ref m0], M1)) rfl rfl rfl ?_
                        refine pr_int (j := 25) (S' := (183, [(0, .ref m0), (1, .int (nI p)), (2, .int (nI (by2 f pF))), (3, .int (nI f0)), (4, .int (nI k)), (5, .int (nI (by2 f p)))], [.int (nI (f0 + k))], M1)) rfl hR1 rfl hl25 rfl ?_
                        refine ps_st (S' := (185, [(6, .int (nI (f0 + k))), (0, .ref m0), (1, .int (nI p)), (2, .int (nI (by2 f pF))), (3, .int (nI f0)), (4, .int (nI k)), (5, .int (nI (by2 f p)))], [], M1)) rfl rfl rfl ?_
                        refine ps_st (S' := (186, [(6, .int (nI (f0 + k))), (0, .ref m0), (1, .int (nI p)), (2, .int (nI (by2 f pF))), (3, .int (nI f0)), (4, .int (nI k)), (5, .int (nI (by2 f p)))], [.ref m0], M1)) rfl rfl rfl ?_
                        refine pr_ref (j := 27) (S' := (189, [(6, .int (nI (f0 + k))), (0, .ref m0), (1, .int (nI p)), (2, .int (nI (by2 f pF))), (3, .int (nI f0)), (4, .int (nI k)), (5, .int (nI (by2 f p)))], [.ref (q 27)], M1)) rfl hR1 rfl rfl ?_
                        refine ps_st (S' := (191, [(6, .int (nI (f0 + k))), (0, .ref m0), (1, .int (nI p)), (2, .int (nI (by2 f pF))), (3, .int (nI f0)), (4, .int (nI k)), (5, .int (nI (by2 f p)))], [.int (nI (f0 + k)), .ref (q 27)], M1)) rfl rfl rfl ?_
                        refine ps_st (S' := (193, [(6, .int (nI (f0 + k))), (0, .ref m0), (1, .int (nI p)), (2, .int (nI (by2 f pF))), (3, .int (nI f0)), (4, .int (nI k)), (5, .int (nI (by2 f p)))], [.int (nI (by2 f p)), .int (nI (f0 + k)), .ref (q 27)], M1)) rfl rfl rfl ?_
                        refine pr_st (a := 27) (j := f0 + k) rfl hR1 rfl (by omega) (fun M111 R112 i1_193 hR113 hS114 => ?_)
                        have hF_115 := hF1.mono (fun _ _ => rfl) (rRx hS114 (by decide))
                        have hY_116 := hY1.mono (fun _ _ => rfl) (rRx hS114 (by decide))
                        have hP_117 := hP1.mono (fun _ _ => rfl) (rRx hS114 (by decide))
                        have hK_118 := hK1.mono (fun _ _ => rfl) (rRx hS114 (by decide))
                        have hN9_119 := hN91.mono (fun _ _ => rfl) (rRx hS114 (by decide))
                        have hER120 := hER1.st hS114 (by decide)
                        show pl _ _ _ (194, [(6, .int (nI (f0 + k))), (0, .ref m0), (1, .int (nI p)), (2, .int (nI (by2 f pF))), (3, .int (nI f0)), (4, .int (nI k)), (5, .int (nI (by2 f p)))], [], M111) _
                        have c27_121 : CE 27 (f0 + k) (nI (by2 f p)) I1 R112 := CE.st hS114
                        refine ps_st (S' := (195, [(6, .int (nI (f0 + k))), (0, .ref m0), (1, .int (nI p)), (2, .int (nI (by2 f pF))), (3, .int (nI f0)), (4, .int (nI k)), (5, .int (nI (by2 f p)))], [.ref m0], M111)) rfl rfl rfl ?_
                        refine pr_ref (j := 28) (S' := (198, [(6, .int (nI (f0 + k))), (0, .ref m0), (1, .int (nI p)), (2, .int (nI (by2 f pF))), (3, .int (nI f0)), (4, .int (nI k)), (5, .int (nI (by2 f p)))], [.ref (q 28)], M111)) rfl hR113 rfl rfl ?_
                        refine ps_st (S' := (200, [(6, .int (nI (f0 + k))), (0, .ref m0), (1, .int (nI p)), (2, .int (nI (by2 f pF))), (3, .int (nI f0)), (4, .int (nI k)), (5, .int (nI (by2 f p)))], [.int (nI (f0 + k)), .ref (q 28)], M111)) rfl rfl rfl ?_
                        refine ps_st (S' := (201, [(6, .int (nI (f0 + k))), (0, .ref m0), (1, .int (nI p)), (2, .int (nI (by2 f pF))), (3, .int (nI f0)), (4, .int (nI k)), (5, .int (nI (by2 f p)))], [.ref m0, .int (nI (f0 + k)), .ref (q 28)], M111)) rfl rfl rfl ?_
                        refine ps_st (S' := (202, [(6, .int (nI (f0 + k))), (0, .ref m0), (1, .int (nI p)), (2, .int (nI (by2 f pF))), (3, .int (nI f0)), (4, .int (nI k)), (5, .int (nI (by2 f p)))], [.ref m0, .ref m0, .int (nI (f0 + k)), .ref (q 28)], M111)) rfl rfl rfl ?_
                        refine ps_st (S' := (203, [(6, .int (nI (f0 + k))), (0, .ref m0), (1, .int (nI p)), (2, .int (nI (by2 f pF))), (3, .int (nI f0)), (4, .int (nI k)), (5, .int (nI (by2 f p)))], [.int (nI p), .ref m0, .ref m0, .int (nI (f0 + k)), .ref (q 28)], M111)) rfl rfl rfl ?_
                        refine ps_st (S' := (204, [(6, .int (nI (f0 + k))), (0, .ref m0), (1, .int (nI p)), (2, .int (nI (by2 f pF))), (3, .int (nI f0)), (4, .int (nI k)), (5, .int (nI (by2 f p)))], [.int 2, .int (nI p), .ref m0, .ref m0, .int (nI (f0 + k)), .ref (q 28)], M111)) rfl rfl rfl ?_
                        refine ps_st (S' := (205, [(6, .int (nI (f0 + k))), (0, .ref m0), (1, .int (nI p)), (2, .int (nI (by2 f pF))), (3, .int (nI f0)), (4, .int (nI k)), (5, .int (nI (by2 f p)))], [.int ((nI p) + 2), .ref m0, .ref m0, .int (nI (f0 + k)), .ref (q 28)], M111)) rfl rfl rfl ?_
                        rw [nI_add1 (p := p) (k := 2) (x := 2) rfl (by omega)]
                        show pl _ _ _ (_, [(6, .int (nI (f0 + k))), (0, .ref m0), (1, .int (nI p)), (2, .int (nI (by2 f pF))), (3, .int (nI f0)), (4, .int (nI k)), (5, .int (nI (by2 f p)))], [.int (nI (p + 2)), .ref m0, .ref m0, .int (nI (f0 + k)), .ref (q 28)], M111) _
                        refine pl_call (a := [.ref m0, .int (nI (p + 2))]) (rest := [.ref m0, .int (nI (f0 + k)), .ref (q 28)]) rfl rfl rfl (rd_u2 (n := n) (f := f) (p := (p + 2)) hR113 hF_115 (by omega)) (fun v122 M123 q124 => ?_)
                        obtain ⟨rfl, rfl⟩ := q124
                        show pl _ _ _ (208, [(6, .int (nI (f0 + k))), (0, .ref m0), (1, .int (nI p)), (2, .int (nI (by2 f pF))), (3, .int (nI f0)), (4, .int (nI k)), (5, .int (nI (by2 f p)))], [.int (nI (by2 f (p + 2))), .ref m0, .int (nI (f0 + k)), .ref (q 28)], M111) _
                        have hu_205 := by2_lt f (p + 2)
                        refine pl_call (a := [.ref m0, .int (nI (by2 f (p + 2)))]) (rest := [.int (nI (f0 + k)), .ref (q 28)]) rfl rfl rfl (rd_symOf (n := n) (f := f) (tx := tx) (cN := cN) (A := A) (N := N) (mj := mj) (E := E) (k := (by2 f (p + 2))) hR113 hl51 hl52 hl53 hF_115 hY_116 hP_117 (hEP) (hN) (hmj) (by omega)) (fun v125 M126 q127 => ?_)
                        obtain ⟨s128, q208_s, rfl, rfl⟩ := q127
                        show pl _ _ _ (211, [(6, .int (nI (f0 + k))), (0, .ref m0), (1, .int (nI p)), (2, .int (nI (by2 f pF))), (3, .int (nI f0)), (4, .int (nI k)), (5, .int (nI (by2 f p)))], [.int (nI s128), .int (nI (f0 + k)), .ref (q 28)], M111) _
                        have hsl_208 := q208_s.1
                        have htl_208 := hY_116.1.2.2.1
                        refine pr_st (a := 28) (j := f0 + k) rfl hR113 rfl (by omega) (fun M129 R130 i1_211 hR131 hS132 => ?_)
                        have hF_133 := hF_115.mono (fun _ _ => rfl) (rRx hS132 (by decide))
                        have hY_134 := hY_116.mono (fun _ _ => rfl) (rRx hS132 (by decide))
                        have hP_135 := hP_117.mono (fun _ _ => rfl) (rRx hS132 (by decide))
                        have hK_136 := hK_118.mono (fun _ _ => rfl) (rRx hS132 (by decide))
                        have c27_137 := c27_121.mono (fun _ _ => rfl) (rRx hS132 (by decide))
                        have hER138 := hER120.st hS132 (by decide)
                        show pl _ _ _ (212, [(6, .int (nI (f0 + k))), (0, .ref m0), (1, .int (nI p)), (2, .int (nI (by2 f pF))), (3, .int (nI f0)), (4, .int (nI k)), (5, .int (nI (by2 f p)))], [], M129) _
                        have c28_139 : CE 28 (f0 + k) (nI s128) I1 R130 := CE.st hS132
                        have hN9_140 := FN.st (I' := I1) hN9_119 hS132 rfl
                        refine ps_st (S' := (213, [(6, .int (nI (f0 + k))), (0, .ref m0), (1, .int (nI p)), (2, .int (nI (by2 f pF))), (3, .int (nI f0)), (4, .int (nI k)), (5, .int (nI (by2 f p)))], [.ref m0], M129)) rfl rfl rfl ?_
                        refine pr_ref (j := 29) (S' := (216, [(6, .int (nI (f0 + k))), (0, .ref m0), (1, .int (nI p)), (2, .int (nI (by2 f pF))), (3, .int (nI f0)), (4, .int (nI k)), (5, .int (nI (by2 f p)))], [.ref (q 29)], M129)) rfl hR131 rfl rfl ?_
                        refine ps_st (S' := (218, [(6, .int (nI (f0 + k))), (0, .ref m0), (1, .int (nI p)), (2, .int (nI (by2 f pF))), (3, .int (nI f0)), (4, .int (nI k)), (5, .int (nI (by2 f p)))], [.int (nI (f0 + k)), .ref (q 29)], M129)) rfl rfl rfl ?_
                        refine ps_st (S' := (219, [(6, .int (nI (f0 + k))), (0, .ref m0), (1, .int (nI p)), (2, .int (nI (by2 f pF))), (3, .int (nI f0)), (4, .int (nI k)), (5, .int (nI (by2 f p)))], [.ref m0, .int (nI (f0 + k)), .ref (q 29)], M129)) rfl rfl rfl ?_
                        refine ps_st (S' := (220, [(6, .int (nI (f0 + k))), (0, .ref m0), (1, .int (nI p)), (2, .int (nI (by2 f pF))), (3, .int (nI f0)), (4, .int (nI k)), (5, .int (nI (by2 f p)))], [.ref m0, .ref m0, .int (nI (f0 + k)), .ref (q 29)], M129)) rfl rfl rfl ?_
                        refine ps_st (S' := (221, [(6, .int (nI (f0 + k))), (0, .ref m0), (1, .int (nI p)), (2, .int (nI (by2 f pF))), (3, .int (nI f0)), (4, .int (nI k)), (5, .int (nI (by2 f p)))], [.int (nI p), .ref m0, .ref m0, .int (nI (f0 + k)), .ref (q 29)], M129)) rfl rfl rfl ?_
                        refine ps_st (S' := (222, [(6, .int (nI (f0 + k))), (0, .ref m0), (1, .int (nI p)), (2, .int (nI (by2 f pF))), (3, .int (nI f0)), (4, .int (nI k)), (5, .int (nI (by2 f p)))], [.int 4, .int (nI p), .ref m0, .ref m0, .int (nI (f0 + k)), .ref (q 29)], M129)) rfl rfl rfl ?_
                        refine ps_st (S' := (223, [(6, .int (nI (f0 + k))), (0, .ref m0), (1, .int (nI p)), (2, .int (nI (by2 f pF))), (3, .int (nI f0)), (4, .int (nI k)), (5, .int (nI (by2 f p)))], [.int ((nI p) + 4), .ref m0, .ref m0, .int (nI (f0 + k)), .ref (q 29)], M129)) rfl rfl rfl ?_
                        rw [nI_add1 (p := p) (k := 4) (x := 4) rfl (by omega)]
                        show pl _ _ _ (_, [(6, .int (nI (f0 + k))), (0, .ref m0), (1, .int (nI p)), (2, .int (nI (by2 f pF))), (3, .int (nI f0)), (4, .int (nI k)), (5, .int (nI (by2 f p)))], [.int (nI (p + 4)), .ref m0, .ref m0, .int (nI (f0 + k)), .ref (q 29)], M129) _
                        refine pl_call (a := [.ref m0, .int (nI (p + 4))]) (rest := [.ref m0, .int (nI (f0 + k)), .ref (q 29)]) rfl rfl rfl (rd_u2 (n := n) (f := f) (p := (p + 4)) hR131 hF_133 (by omega)) (fun v141 M142 q143 => ?_)
                        obtain ⟨rfl, rfl⟩ := q143
                        show pl _ _ _ (226, [(6, .int (nI (f0 + k))), (0, .ref m0), (1, .int (nI p)), (2, .int (nI (by2 f pF))), (3, .int (nI f0)), (4, .int (nI k)), (5, .int (nI (by2 f p)))], [.int (nI (by2 f (p + 4))), .ref m0, .int (nI (f0 + k)), .ref (q 29)], M129) _
                        have hu_223 := by2_lt f (p + 4)
                        refine pl_call (a := [.ref m0, .int (nI (by2 f (p + 4)))]) (rest := [.int (nI (f0 + k)), .ref (q 29)]) rfl rfl rfl (rd_symOf (n := n) (f := f) (tx := tx) (cN := cN) (A := A) (N := N) (mj := mj) (E := E) (k := (by2 f (p + 4))) hR131 hl51 hl52 hl53 hF_133 hY_134 hP_135 (hEP) (hN) (hmj) (by omega)) (fun v144 M145 q146 => ?_)
                        obtain ⟨s147, q226_s, rfl, rfl⟩ := q146
                        show pl _ _ _ (229, [(6, .int (nI (f0 + k))), (0, .ref m0), (1, .int (nI p)), (2, .int (nI (by2 f pF))), (3, .int (nI f0)), (4, .int (nI k)), (5, .int (nI (by2 f p)))], [.int (nI s147), .int (nI (f0 + k)), .ref (q 29)], M129) _
                        have hsl_226 := q226_s.1
                        have htl_226 := hY_134.1.2.2.1
                        refine pr_st (a := 29) (j := f0 + k) rfl hR131 rfl (by omega) (fun M148 R149 i1_229 hR150 hS151 => ?_)
                        have hF_152 := hF_133.mono (fun _ _ => rfl) (rRx hS151 (by decide))
                        have hY_153 := hY_134.mono (fun _ _ => rfl) (rRx hS151 (by decide))
                        have hP_154 := hP_135.mono (fun _ _ => rfl) (rRx hS151 (by decide))
                        have hK_155 := hK_136.mono (fun _ _ => rfl) (rRx hS151 (by decide))
                        have c27_156 := c27_137.mono (fun _ _ => rfl) (rRx hS151 (by decide))
                        have c28_157 := c28_139.mono (fun _ _ => rfl) (rRx hS151 (by decide))
                        have hER158 := hER138.st hS151 (by decide)
                        show pl _ _ _ (230, [(6, .int (nI (f0 + k))), (0, .ref m0), (1, .int (nI p)), (2, .int (nI (by2 f pF))), (3, .int (nI f0)), (4, .int (nI k)), (5, .int (nI (by2 f p)))], [], M148) _
                        have c29_159 : CE 29 (f0 + k) (nI s147) I1 R149 := CE.st hS151
                        have hN9_160 := FN.st (I' := I1) hN9_140 hS151 rfl
                        refine ps_st (S' := (231, [(6, .int (nI (f0 + k))), (0, .ref m0), (1, .int (nI p)), (2, .int (nI (by2 f pF))), (3, .int (nI f0)), (4, .int (nI k)), (5, .int (nI (by2 f p)))], [.ref m0], M148)) rfl rfl rfl ?_
                        refine pr_ref (j := 30) (S' := (234, [(6, .int (nI (f0 + k))), (0, .ref m0), (1, .int (nI p)), (2, .int (nI (by2 f pF))), (3, .int (nI f0)), (4, .int (nI k)), (5, .int (nI (by2 f p)))], [.ref (q 30)], M148)) rfl hR150 rfl rfl ?_
                        refine ps_st (S' := (236, [(6, .int (nI (f0 + k))), (0, .ref m0), (1, .int (nI p)), (2, .int (nI (by2 f pF))), (3, .int (nI f0)), (4, .int (nI k)), (5, .int (nI (by2 f p)))], [.int (nI (f0 + k)), .ref (q 30)], M148)) rfl rfl rfl ?_
                        refine ps_st (S' := (237, [(6, .int (nI (f0 + k))), (0, .ref m0), (1, .int (nI p)), (2, .int (nI (by2 f pF))), (3, .int (nI f0)), (4, .int (nI k)), (5, .int (nI (by2 f p)))], [.int 0, .int (nI (f0 + k)), .ref (q 30)], M148)) rfl rfl rfl ?_
                        refine pr_st (a := 30) (j := f0 + k) rfl hR150 rfl (by omega) (fun M161 R162 i1_237 hR163 hS164 => ?_)
                        have hF_165 := hF_152.mono (fun _ _ => rfl) (rRx hS164 (by decide))
                        have hY_166 := hY_153.mono (fun _ _ => rfl) (rRx hS164 (by decide))
                        have hP_167 := hP_154.mono (fun _ _ => rfl) (rRx hS164 (by decide))
                        have hK_168 := hK_155.mono (fun _ _ => rfl) (rRx hS164 (by decide))
                        have c27_169 := c27_156.mono (fun _ _ => rfl) (rRx hS164 (by decide))
                        have c28_170 := c28_157.mono (fun _ _ => rfl) (rRx hS164 (by decide))
                        have c29_171 := c29_159.mono (fun _ _ => rfl) (rRx hS164 (by decide))
                        have hN9_172 := hN9_160.mono (fun _ _ => rfl) (rRx hS164 (by decide))
                        have hER173 := hER158.st hS164 (by decide)
                        show pl _ _ _ (238, [(6, .int (nI (f0 + k))), (0, .ref m0), (1, .int (nI p)), (2, .int (nI (by2 f pF))), (3, .int (nI f0)), (4, .int (nI k)), (5, .int (nI (by2 f p)))], [], M161) _
                        refine ps_st (S' := (239, [(6, .int (nI (f0 + k))), (0, .ref m0), (1, .int (nI p)), (2, .int (nI (by2 f pF))), (3, .int (nI f0)), (4, .int (nI k)), (5, .int (nI (by2 f p)))], [.ref m0], M161)) rfl rfl rfl ?_
                        refine pr_ref (j := 31) (S' := (242, [(6, .int (nI (f0 + k))), (0, .ref m0), (1, .int (nI p)), (2, .int (nI (by2 f pF))), (3, .int (nI f0)), (4, .int (nI k)), (5, .int (nI (by2 f p)))], [.ref (q 31)], M161)) rfl hR163 rfl rfl ?_
                        refine ps_st (S' := (244, [(6, .int (nI (f0 + k))), (0, .ref m0), (1, .int (nI p)), (2, .int (nI (by2 f pF))), (3, .int (nI f0)), (4, .int (nI k)), (5, .int (nI (by2 f p)))], [.int (nI (f0 + k)), .ref (q 31)], M161)) rfl rfl rfl ?_
                        refine ps_st (S' := (245, [(6, .int (nI (f0 + k))), (0, .ref m0), (1, .int (nI p)), (2, .int (nI (by2 f pF))), (3, .int (nI f0)), (4, .int (nI k)), (5, .int (nI (by2 f p)))], [.int 0, .int (nI (f0 + k)), .ref (q 31)], M161)) rfl rfl rfl ?_
                        refine pr_st (a := 31) (j := f0 + k) rfl hR163 rfl (by omega) (fun M174 R175 i1_245 hR176 hS177 => ?_)
                        have hF_178 := hF_165.mono (fun _ _ => rfl) (rRx hS177 (by decide))
                        have hY_179 := hY_166.mono (fun _ _ => rfl) (rRx hS177 (by decide))
                        have hP_180 := hP_167.mono (fun _ _ => rfl) (rRx hS177 (by decide))
                        have hK_181 := hK_168.mono (fun _ _ => rfl) (rRx hS177 (by decide))
                        have c27_182 := c27_169.mono (fun _ _ => rfl) (rRx hS177 (by decide))
                        have c28_183 := c28_170.mono (fun _ _ => rfl) (rRx hS177 (by decide))
                        have c29_184 := c29_171.mono (fun _ _ => rfl) (rRx hS177 (by decide))
                        have hN9_185 := hN9_172.mono (fun _ _ => rfl) (rRx hS177 (by decide))
                        have hER186 := hER173.st hS177 (by decide)
                        show pl _ _ _ (246, [(6, .int (nI (f0 + k))), (0, .ref m0), (1, .int (nI p)), (2, .int (nI (by2 f pF))), (3, .int (nI f0)), (4, .int (nI k)), (5, .int (nI (by2 f p)))], [], M174) _
                        refine ps_st (S' := (247, [(6, .int (nI (f0 + k))), (0, .ref m0), (1, .int (nI p)), (2, .int (nI (by2 f pF))), (3, .int (nI f0)), (4, .int (nI k)), (5, .int (nI (by2 f p)))], [.ref m0], M174)) rfl rfl rfl ?_
                        refine pr_ref (j := 32) (S' := (250, [(6, .int (nI (f0 + k))), (0, .ref m0), (1, .int (nI p)), (2, .int (nI (by2 f pF))), (3, .int (nI f0)), (4, .int (nI k)), (5, .int (nI (by2 f p)))], [.ref (q 32)], M174)) rfl hR176 rfl rfl ?_
                        refine ps_st (S' := (252, [(6, .int (nI (f0 + k))), (0, .ref m0), (1, .int (nI p)), (2, .int (nI (by2 f pF))), (3, .int (nI f0)), (4, .int (nI k)), (5, .int (nI (by2 f p)))], [.int (nI (f0 + k)), .ref (q 32)], M174)) rfl rfl rfl ?_
                        refine ps_st (S' := (253, [(6, .int (nI (f0 + k))), (0, .ref m0), (1, .int (nI p)), (2, .int (nI (by2 f pF))), (3, .int (nI f0)), (4, .int (nI k)), (5, .int (nI (by2 f p)))], [.ref m0, .int (nI (f0 + k)), .ref (q 32)], M174)) rfl rfl rfl ?_
                        refine ps_st (S' := (254, [(6, .int (nI (f0 + k))), (0, .ref m0), (1, .int (nI p)), (2, .int (nI (by2 f pF))), (3, .int (nI f0)), (4, .int (nI k)), (5, .int (nI (by2 f p)))], [.int (nI p), .ref m0, .int (nI (f0 + k)), .ref (q 32)], M174)) rfl rfl rfl ?_
                        refine ps_st (S' := (255, [(6, .int (nI (f0 + k))), (0, .ref m0), (1, .int (nI p)), (2, .int (nI (by2 f pF))), (3, .int (nI f0)), (4, .int (nI k)), (5, .int (nI (by2 f p)))], [.int 2, .int (nI p), .ref m0, .int (nI (f0 + k)), .ref (q 32)], M174)) rfl rfl rfl ?_
                        refine ps_st (S' := (256, [(6, .int (nI (f0 + k))), (0, .ref m0), (1, .int (nI p)), (2, .int (nI (by2 f pF))), (3, .int (nI f0)), (4, .int (nI k)), (5, .int (nI (by2 f p)))], [.int ((nI p) + 2), .ref m0, .int (nI (f0 + k)), .ref (q 32)], M174)) rfl rfl rfl ?_
                        rw [nI_add1 (p := p) (k := 2) (x := 2) rfl (by omega)]
                        show pl _ _ _ (_, [(6, .int (nI (f0 + k))), (0, .ref m0), (1, .int (nI p)), (2, .int (nI (by2 f pF))), (3, .int (nI f0)), (4, .int (nI k)), (5, .int (nI (by2 f p)))], [.int (nI (p + 2)), .ref m0, .int (nI (f0 + k)), .ref (q 32)], M174) _
                        refine pl_call (a := [.ref m0, .int (nI (p + 2))]) (rest := [.int (nI (f0 + k)), .ref (q 32)]) rfl rfl rfl (rd_u2 (n := n) (f := f) (p := (p + 2)) hR176 hF_178 (by omega)) (fun v187 M188 q189 => ?_)
                        obtain ⟨rfl, rfl⟩ := q189
                        show pl _ _ _ (259, [(6, .int (nI (f0 + k))), (0, .ref m0), (1, .int (nI p)), (2, .int (nI (by2 f pF))), (3, .int (nI f0)), (4, .int (nI k)), (5, .int (nI (by2 f p)))], [.int (nI (by2 f (p + 2))), .int (nI (f0 + k)), .ref (q 32)], M174) _
                        have hu_256 := by2_lt f (p + 2)
                        refine pr_st (a := 32) (j := f0 + k) rfl hR176 rfl (by omega) (fun M190 R191 i1_259 hR192 hS193 => ?_)
                        have hF_194 := hF_178.mono (fun _ _ => rfl) (rRx hS193 (by decide))
                        have hY_195 := hY_179.mono (fun _ _ => rfl) (rRx hS193 (by decide))
                        have hP_196 := hP_180.mono (fun _ _ => rfl) (rRx hS193 (by decide))
                        have hK_197 := hK_181.mono (fun _ _ => rfl) (rRx hS193 (by decide))
                        have c27_198 := c27_182.mono (fun _ _ => rfl) (rRx hS193 (by decide))
                        have c28_199 := c28_183.mono (fun _ _ => rfl) (rRx hS193 (by decide))
                        have c29_200 := c29_184.mono (fun _ _ => rfl) (rRx hS193 (by decide))
                        have hN9_201 := hN9_185.mono (fun _ _ => rfl) (rRx hS193 (by decide))
                        have hER202 := hER186.st hS193 (by decide)
                        show pl _ _ _ (260, [(6, .int (nI (f0 + k))), (0, .ref m0), (1, .int (nI p)), (2, .int (nI (by2 f pF))), (3, .int (nI f0)), (4, .int (nI k)), (5, .int (nI (by2 f p)))], [], M190) _
                        refine ps_st (S' := (261, [(6, .int (nI (f0 + k))), (0, .ref m0), (1, .int (nI p)), (2, .int (nI (by2 f pF))), (3, .int (nI f0)), (4, .int (nI k)), (5, .int (nI (by2 f p)))], [.ref m0], M190)) rfl rfl rfl ?_
                        refine pr_ref (j := 33) (S' := (264, [(6, .int (nI (f0 + k))), (0, .ref m0), (1, .int (nI p)), (2, .int (nI (by2 f pF))), (3, .int (nI f0)), (4, .int (nI k)), (5, .int (nI (by2 f p)))], [.ref (q 33)], M190)) rfl hR192 rfl rfl ?_
                        refine ps_st (S' := (266, [(6, .int (nI (f0 + k))), (0, .ref m0), (1, .int (nI p)), (2, .int (nI (by2 f pF))), (3, .int (nI f0)), (4, .int (nI k)), (5, .int (nI (by2 f p)))], [.int (nI (f0 + k)), .ref (q 33)], M190)) rfl rfl rfl ?_
                        refine ps_st (S' := (267, [(6, .int (nI (f0 + k))), (0, .ref m0), (1, .int (nI p)), (2, .int (nI (by2 f pF))), (3, .int (nI f0)), (4, .int (nI k)), (5, .int (nI (by2 f p)))], [.ref m0, .int (nI (f0 + k)), .ref (q 33)], M190)) rfl rfl rfl ?_
                        refine ps_st (S' := (268, [(6, .int (nI (f0 + k))), (0, .ref m0), (1, .int (nI p)), (2, .int (nI (by2 f pF))), (3, .int (nI f0)), (4, .int (nI k)), (5, .int (nI (by2 f p)))], [.int (nI p), .ref m0, .int (nI (f0 + k)), .ref (q 33)], M190)) rfl rfl rfl ?_
                        refine ps_st (S' := (269, [(6, .int (nI (f0 + k))), (0, .ref m0), (1, .int (nI p)), (2, .int (nI (by2 f pF))), (3, .int (nI f0)), (4, .int (nI k)), (5, .int (nI (by2 f p)))], [.int 4, .int (nI p), .ref m0, .int (nI (f0 + k)), .ref (q 33)], M190)) rfl rfl rfl ?_
                        refine ps_st (S' := (270, [(6, .int (nI (f0 + k))), (0, .ref m0), (1, .int (nI p)), (2, .int (nI (by2 f pF))), (3, .int (nI f0)), (4, .int (nI k)), (5, .int (nI (by2 f p)))], [.int ((nI p) + 4), .ref m0, .int (nI (f0 + k)), .ref (q 33)], M190)) rfl rfl rfl ?_
                        rw [nI_add1 (p := p) (k := 4) (x := 4) rfl (by omega)]
                        show pl _ _ _ (_, [(6, .int (nI (f0 + k))), (0, .ref m0), (1, .int (nI p)), (2, .int (nI (by2 f pF))), (3, .int (nI f0)), (4, .int (nI k)), (5, .int (nI (by2 f p)))], [.int (nI (p + 4)), .ref m0, .int (nI (f0 + k)), .ref (q 33)], M190) _
                        refine pl_call (a := [.ref m0, .int (nI (p + 4))]) (rest := [.int (nI (f0 + k)), .ref (q 33)]) rfl rfl rfl (rd_u2 (n := n) (f := f) (p := (p + 4)) hR192 hF_194 (by omega)) (fun v203 M204 q205 => ?_)
                        obtain ⟨rfl, rfl⟩ := q205
                        show pl _ _ _ (273, [(6, .int (nI (f0 + k))), (0, .ref m0), (1, .int (nI p)), (2, .int (nI (by2 f pF))), (3, .int (nI f0)), (4, .int (nI k)), (5, .int (nI (by2 f p)))], [.int (nI (by2 f (p + 4))), .int (nI (f0 + k)), .ref (q 33)], M190) _
                        have hu_270 := by2_lt f (p + 4)
                        refine pr_st (a := 33) (j := f0 + k) rfl hR192 rfl (by omega) (fun M206 R207 i1_273 hR208 hS209 => ?_)
                        have hF_210 := hF_194.mono (fun _ _ => rfl) (rRx hS209 (by decide))
                        have hY_211 := hY_195.mono (fun _ _ => rfl) (rRx hS209 (by decide))
                        have hP_212 := hP_196.mono (fun _ _ => rfl) (rRx hS209 (by decide))
                        have hK_213 := hK_197.mono (fun _ _ => rfl) (rRx hS209 (by decide))
                        have c27_214 := c27_198.mono (fun _ _ => rfl) (rRx hS209 (by decide))
                        have c28_215 := c28_199.mono (fun _ _ => rfl) (rRx hS209 (by decide))
                        have c29_216 := c29_200.mono (fun _ _ => rfl) (rRx hS209 (by decide))
                        have hN9_217 := hN9_201.mono (fun _ _ => rfl) (rRx hS209 (by decide))
                        have hER218 := hER202.st hS209 (by decide)
                        show pl _ _ _ (274, [(6, .int (nI (f0 + k))), (0, .ref m0), (1, .int (nI p)), (2, .int (nI (by2 f pF))), (3, .int (nI f0)), (4, .int (nI k)), (5, .int (nI (by2 f p)))], [], M206) _
                        refine ps_st (S' := (275, [(6, .int (nI (f0 + k))), (0, .ref m0), (1, .int (nI p)), (2, .int (nI (by2 f pF))), (3, .int (nI f0)), (4, .int (nI k)), (5, .int (nI (by2 f p)))], [.int (nI f0)], M206)) rfl rfl rfl ?_
                        refine ps_st (S' := (277, [(0, .ref m0), (1, .int (nI p)), (2, .int (nI (by2 f pF))), (3, .int (nI f0)), (4, .int (nI k)), (6, .int (nI (f0 + k))), (7, .int (nI f0))], [], M206)) rfl rfl rfl ?_
                        have h19 : ¬ fflN cf (by2 f p) = 0 := by
                          have e1 := ffl_0 cf (by2 f p)
                          have e2 := sev_0 (by2 f p)
                          have e3 := hall_80 (by2 f p)
                          omega
                        exact ih.2 (k) (p) (0) (s128) (s147) M206 I1 R207 hR208 hEI1 hER218 hl51 hl52 hl53 hl58 hl55 hl25 hF_210 hY_211 hP_212 hK_213 hN9_217 c27_214 c28_215 c29_216 (by omega) (hpk) (by omega) (hs) (by omega) (by omega) (q208_s) (q226_s) (by omega) (by omega) (h19) (by omega) (by omega) (rfl)
                      · have c_166 : ¬ (¬ (nI (fldN (tX f n E (by2 f (p + 4))))) = 0) := of_decide_eq_false c_166
                        have n_166 : fldN (tX f n E (by2 f (p + 4))) = 0 := (eq_nI (p := fldN (tX f n E (by2 f (p + 4)))) (n := 0) (Nat.lt_trans (le1_fld _) (by decide)) (by decide)).mp (Decidable.not_not.mp c_166)
                        refine ps_st (S' := (170, [(0, .ref m0), (1, .int (nI p))], [.ref m0], M1)) rfl rfl rfl ?_
                        refine ps_st (S' := (172, [(0, .ref m0), (1, .int (nI p))], [.int 21, .ref m0], M1)) rfl rfl rfl ?_
                        refine ps_st (S' := (173, [(0, .ref m0), (1, .int (nI p))], [.int (nI p), .int 21, .ref m0], M1)) rfl rfl rfl ?_
                        refine ps_st (S' := (174, [(0, .ref m0), (1, .int (nI p))], [.int 4, .int (nI p), .int 21, .ref m0], M1)) rfl rfl rfl ?_
                        refine ps_st (S' := (175, [(0, .ref m0), (1, .int (nI p))], [.int ((nI p) + 4), .int 21, .ref m0], M1)) rfl rfl rfl ?_
                        rw [nI_add1 (p := p) (k := 4) (x := 4) rfl (by omega)]
                        show pl _ _ _ (_, [(0, .ref m0), (1, .int (nI p))], [.int (nI (p + 4)), .int 21, .ref m0], M1) _
                        refine pl_call (a := [.ref m0, .int 21, .int (nI (p + 4))]) (rest := []) rfl rfl rfl (rd_wrong (x1 := 21) (x2 := (nI (p + 4))) hR1) (fun v219 M220 q221 => ?_)
                        obtain ⟨I222, R223, rfl, hR224, hI225, hX226, hi227, hi228⟩ := q221
                        have hi229 := (hI225 51 (by decide)).trans hl51
                        have hi230 := (hI225 52 (by decide)).trans hl52
                        have hi231 := (hI225 53 (by decide)).trans hl53
                        have hi232 := (hI225 58 (by decide)).trans hl58
                        have hi233 := (hI225 55 (by decide)).trans hl55
                        have hi234 := (hI225 25 (by decide)).trans hl25
                        have hF_235 := hF1.mono (cIx hI225 (by decide)) (cRx hX226 (by decide))
                        have hY_236 := hY1.mono (cIx hI225 (by decide)) (cRx hX226 (by decide))
                        have hP_237 := hP1.mono (cIx hI225 (by decide)) (cRx hX226 (by decide))
                        have hK_238 := hK1.mono (cIx hI225 (by decide)) (cRx hX226 (by decide))
                        have hN9_239 := hN91.mono (cIx hI225 (by decide)) (cRx hX226 (by decide))
                        have hEI240 := hEI1.tr hI225 (by decide)
                        have hER241 := hER1.tr hX226 (by decide)
                        show pl _ _ _ (178, [(0, .ref m0), (1, .int (nI p))], [.int 0], M220) _
                        exact ps_ret rfl rfl (Or.inr ⟨(21, p + 4), I222, R223, by
                            rw [← hs, flS_st (i := k) (by omega), ← hpk, fh_21 (by have e1 := ffl_0 cf (by2 f p); have e2 := sev_0 (by2 f p); have e3 := hall_80 (by2 f p); omega) (by omega) (by omega)], rfl, hR224, hEI240, hER241, hi227, hi228⟩)
                  · have c_123 : ¬ (¬ (nI (unqN (tX f n E (by2 f (p + 2))))) = 0) := of_decide_eq_false c_123
                    have n_123 : unqN (tX f n E (by2 f (p + 2))) = 0 := (eq_nI (p := unqN (tX f n E (by2 f (p + 2)))) (n := 0) (Nat.lt_trans (le1_unq _) (by decide)) (by decide)).mp (Decidable.not_not.mp c_123)
                    refine ps_st (S' := (127, [(0, .ref m0), (1, .int (nI p))], [.ref m0], M1)) rfl rfl rfl ?_
                    refine ps_st (S' := (129, [(0, .ref m0), (1, .int (nI p))], [.int 20, .ref m0], M1)) rfl rfl rfl ?_
                    refine ps_st (S' := (130, [(0, .ref m0), (1, .int (nI p))], [.int (nI p), .int 20, .ref m0], M1)) rfl rfl rfl ?_
                    refine ps_st (S' := (131, [(0, .ref m0), (1, .int (nI p))], [.int 2, .int (nI p), .int 20, .ref m0], M1)) rfl rfl rfl ?_
                    refine ps_st (S' := (132, [(0, .ref m0), (1, .int (nI p))], [.int ((nI p) + 2), .int 20, .ref m0], M1)) rfl rfl rfl ?_
                    rw [nI_add1 (p := p) (k := 2) (x := 2) rfl (by omega)]
                    show pl _ _ _ (_, [(0, .ref m0), (1, .int (nI p))], [.int (nI (p + 2)), .int 20, .ref m0], M1) _
                    refine pl_call (a := [.ref m0, .int 20, .int (nI (p + 2))]) (rest := []) rfl rfl rfl (rd_wrong (x1 := 20) (x2 := (nI (p + 2))) hR1) (fun v242 M243 q244 => ?_)
                    obtain ⟨I245, R246, rfl, hR247, hI248, hX249, hi250, hi251⟩ := q244
                    have hi252 := (hI248 51 (by decide)).trans hl51
                    have hi253 := (hI248 52 (by decide)).trans hl52
                    have hi254 := (hI248 53 (by decide)).trans hl53
                    have hi255 := (hI248 58 (by decide)).trans hl58
                    have hi256 := (hI248 55 (by decide)).trans hl55
                    have hi257 := (hI248 25 (by decide)).trans hl25
                    have hF_258 := hF1.mono (cIx hI248 (by decide)) (cRx hX249 (by decide))
                    have hY_259 := hY1.mono (cIx hI248 (by decide)) (cRx hX249 (by decide))
                    have hP_260 := hP1.mono (cIx hI248 (by decide)) (cRx hX249 (by decide))
                    have hK_261 := hK1.mono (cIx hI248 (by decide)) (cRx hX249 (by decide))
                    have hN9_262 := hN91.mono (cIx hI248 (by decide)) (cRx hX249 (by decide))
                    have hEI263 := hEI1.tr hI248 (by decide)
                    have hER264 := hER1.tr hX249 (by decide)
                    show pl _ _ _ (135, [(0, .ref m0), (1, .int (nI p))], [.int 0], M243) _
                    exact ps_ret rfl rfl (Or.inr ⟨(20, p + 2), I245, R246, by
                        rw [← hs, flS_st (i := k) (by omega), ← hpk, fh_20 (by have e1 := ffl_0 cf (by2 f p); have e2 := sev_0 (by2 f p); have e3 := hall_80 (by2 f p); omega) (by omega)], rfl, hR247, hEI263, hER264, hi250, hi251⟩)
              · have c_70 : ¬ ((nI (aN cf 512)) = 0) := of_decide_eq_false c_70
                have n_70 : ¬ (aN cf 512 = 0) := fun h9 => c_70 ((eq_nI (p := aN cf 512) (n := 0) (Nat.lt_of_le_of_lt (an_le _ _) (by decide)) (by decide)).mpr h9)
                refine ps_st (S' := (75, [(0, .ref m0), (1, .int (nI p)), (2, .int (nI (by2 f pF))), (3, .int (nI f0)), (4, .int (nI k)), (5, .int (nI (by2 f p)))], [.int (nI (by2 f p))], M1)) rfl rfl rfl ?_
                refine ps_st (S' := (78, [(0, .ref m0), (1, .int (nI p)), (2, .int (nI (by2 f pF))), (3, .int (nI f0)), (4, .int (nI k)), (5, .int (nI (by2 f p)))], [.int 16607, .int (nI (by2 f p))], M1)) rfl rfl rfl ?_
                refine ps_st (S' := (79, [(0, .ref m0), (1, .int (nI p)), (2, .int (nI (by2 f pF))), (3, .int (nI f0)), (4, .int (nI k)), (5, .int (nI (by2 f p)))], [.int ((nI (by2 f p)) &&& 16607)], M1)) rfl rfl rfl ?_
                rw [nI_an (p := by2 f p) (k := 16607) (x := 16607) rfl]
                show pl _ _ _ (_, [(0, .ref m0), (1, .int (nI p)), (2, .int (nI (by2 f pF))), (3, .int (nI f0)), (4, .int (nI k)), (5, .int (nI (by2 f p)))], [.int (nI (aN (by2 f p) 16607))], M1) _
                refine ps_st (S' := (81, [(0, .ref m0), (1, .int (nI p)), (2, .int (nI (by2 f pF))), (3, .int (nI f0)), (4, .int (nI k)), (5, .int (nI (by2 f p)))], [.int 25, .int (nI (aN (by2 f p) 16607))], M1)) rfl rfl rfl ?_
                refine ps_if2 (S1 := (92, [(0, .ref m0), (1, .int (nI p)), (2, .int (nI (by2 f pF))), (3, .int (nI f0)), (4, .int (nI k)), (5, .int (nI (by2 f p)))], [], M1)) (S2 := (84, [(0, .ref m0), (1, .int (nI p))], [], M1)) rfl rfl rfl (fun c_81 => ?_) (fun c_81 => ?_)
                · have c_81 : (nI (aN (by2 f p) 16607)) = 25 := of_decide_eq_true c_81
                  have n_81 : aN (by2 f p) 16607 = 25 := (eq_nI (p := aN (by2 f p) 16607) (n := 25) (Nat.lt_of_le_of_lt (an_le _ _) (by decide)) (by decide)).mp c_81
                  refine ps_st (S' := (93, [(0, .ref m0), (1, .int (nI p)), (2, .int (nI (by2 f pF))), (3, .int (nI f0)), (4, .int (nI k)), (5, .int (nI (by2 f p)))], [.ref m0], M1)) rfl rfl rfl ?_
                  refine ps_st (S' := (94, [(0, .ref m0), (1, .int (nI p)), (2, .int (nI (by2 f pF))), (3, .int (nI f0)), (4, .int (nI k)), (5, .int (nI (by2 f p)))], [.ref m0, .ref m0], M1)) rfl rfl rfl ?_
                  refine ps_st (S' := (95, [(0, .ref m0), (1, .int (nI p)), (2, .int (nI (by2 f pF))), (3, .int (nI f0)), (4, .int (nI k)), (5, .int (nI (by2 f p)))], [.int (nI p), .ref m0, .ref m0], M1)) rfl rfl rfl ?_
                  refine ps_st (S' := (96, [(0, .ref m0), (1, .int (nI p)), (2, .int (nI (by2 f pF))), (3, .int (nI f0)), (4, .int (nI k)), (5, .int (nI (by2 f p)))], [.int 2, .int (nI p), .ref m0, .ref m0], M1)) rfl rfl rfl ?_
                  refine ps_st (S' := (97, [(0, .ref m0), (1, .int (nI p)), (2, .int (nI (by2 f pF))), (3, .int (nI f0)), (4, .int (nI k)), (5, .int (nI (by2 f p)))], [.int ((nI p) + 2), .ref m0, .ref m0], M1)) rfl rfl rfl ?_
                  rw [nI_add1 (p := p) (k := 2) (x := 2) rfl (by omega)]
                  show pl _ _ _ (_, [(0, .ref m0), (1, .int (nI p)), (2, .int (nI (by2 f pF))), (3, .int (nI f0)), (4, .int (nI k)), (5, .int (nI (by2 f p)))], [.int (nI (p + 2)), .ref m0, .ref m0], M1) _
                  refine pl_call (a := [.ref m0, .int (nI (p + 2))]) (rest := [.ref m0]) rfl rfl rfl (rd_u2 (n := n) (f := f) (p := (p + 2)) hR1 hF1 (by omega)) (fun v265 M266 q267 => ?_)
                  obtain ⟨rfl, rfl⟩ := q267
                  show pl _ _ _ (100, [(0, .ref m0), (1, .int (nI p)), (2, .int (nI (by2 f pF))), (3, .int (nI f0)), (4, .int (nI k)), (5, .int (nI (by2 f p)))], [.int (nI (by2 f (p + 2))), .ref m0], M1) _
                  have hu_97 := by2_lt f (p + 2)
                  refine pl_call (a := [.ref m0, .int (nI (by2 f (p + 2)))]) (rest := []) rfl rfl rfl (rd_tag (n := n) (f := f) (tx := tx) (cN := cN) (A := A) (N := N) (mj := mj) (E := E) (k := (by2 f (p + 2))) hR1 hl51 hl52 hl53 hF1 hY1 hP1 (hEP) (hN) (hmj) (by2_lt _ _)) (fun v268 M269 q270 => ?_)
                  obtain ⟨rfl, rfl⟩ := q270
                  show pl _ _ _ (103, [(0, .ref m0), (1, .int (nI p)), (2, .int (nI (by2 f pF))), (3, .int (nI f0)), (4, .int (nI k)), (5, .int (nI (by2 f p)))], [.int (nI (tg f E (by2 f (p + 2))))], M1) _
                  have htg_100 := tg_lt f E (by2 f (p + 2))
                  refine ps_st (S' := (104, [(0, .ref m0), (1, .int (nI p)), (2, .int (nI (by2 f pF))), (3, .int (nI f0)), (4, .int (nI k)), (5, .int (nI (by2 f p)))], [.int 1, .int (nI (tg f E (by2 f (p + 2))))], M1)) rfl rfl rfl ?_
                  refine ps_if2 (S1 := (126, [(0, .ref m0), (1, .int (nI p))], [], M1)) (S2 := (107, [(0, .ref m0), (1, .int (nI p)), (2, .int (nI (by2 f pF))), (3, .int (nI f0)), (4, .int (nI k)), (5, .int (nI (by2 f p)))], [], M1)) rfl rfl rfl (fun c_104 => ?_) (fun c_104 => ?_)
                  · have c_104 : ¬ (nI (tg f E (by2 f (p + 2)))) = 1 := of_decide_eq_true c_104
                    have n_104 : ¬ (tg f E (by2 f (p + 2)) = 1) := fun h9 => c_104 ((eq_nI (p := tg f E (by2 f (p + 2))) (n := 1) (Nat.lt_trans (tg_lt _ _ _) (by decide)) (by decide)).mpr h9)
                    refine ps_st (S' := (127, [(0, .ref m0), (1, .int (nI p))], [.ref m0], M1)) rfl rfl rfl ?_
                    refine ps_st (S' := (129, [(0, .ref m0), (1, .int (nI p))], [.int 20, .ref m0], M1)) rfl rfl rfl ?_
                    refine ps_st (S' := (130, [(0, .ref m0), (1, .int (nI p))], [.int (nI p), .int 20, .ref m0], M1)) rfl rfl rfl ?_
                    refine ps_st (S' := (131, [(0, .ref m0), (1, .int (nI p))], [.int 2, .int (nI p), .int 20, .ref m0], M1)) rfl rfl rfl ?_
                    refine ps_st (S' := (132, [(0, .ref m0), (1, .int (nI p))], [.int ((nI p) + 2), .int 20, .ref m0], M1)) rfl rfl rfl ?_
                    rw [nI_add1 (p := p) (k := 2) (x := 2) rfl (by omega)]
                    show pl _ _ _ (_, [(0, .ref m0), (1, .int (nI p))], [.int (nI (p + 2)), .int 20, .ref m0], M1) _
                    refine pl_call (a := [.ref m0, .int 20, .int (nI (p + 2))]) (rest := []) rfl rfl rfl (rd_wrong (x1 := 20) (x2 := (nI (p + 2))) hR1) (fun v271 M272 q273 => ?_)
                    obtain ⟨I274, R275, rfl, hR276, hI277, hX278, hi279, hi280⟩ := q273
                    have hi281 := (hI277 51 (by decide)).trans hl51
                    have hi282 := (hI277 52 (by decide)).trans hl52
                    have hi283 := (hI277 53 (by decide)).trans hl53
                    have hi284 := (hI277 58 (by decide)).trans hl58
                    have hi285 := (hI277 55 (by decide)).trans hl55
                    have hi286 := (hI277 25 (by decide)).trans hl25
                    have hF_287 := hF1.mono (cIx hI277 (by decide)) (cRx hX278 (by decide))
                    have hY_288 := hY1.mono (cIx hI277 (by decide)) (cRx hX278 (by decide))
                    have hP_289 := hP1.mono (cIx hI277 (by decide)) (cRx hX278 (by decide))
                    have hK_290 := hK1.mono (cIx hI277 (by decide)) (cRx hX278 (by decide))
                    have hN9_291 := hN91.mono (cIx hI277 (by decide)) (cRx hX278 (by decide))
                    have hEI292 := hEI1.tr hI277 (by decide)
                    have hER293 := hER1.tr hX278 (by decide)
                    show pl _ _ _ (135, [(0, .ref m0), (1, .int (nI p))], [.int 0], M272) _
                    exact ps_ret rfl rfl (Or.inr ⟨(20, p + 2), I274, R275, by
                        rw [← hs, flS_st (i := k) (by omega), ← hpk, fh_20 (by have e1 := ffl_0 cf (by2 f p); have e2 := sev_0 (by2 f p); have e3 := hall_80 (by2 f p); omega) (by rw [tx_no (by omega)]; decide)], rfl, hR276, hEI292, hER293, hi279, hi280⟩)
                  · have c_104 : ¬ (¬ (nI (tg f E (by2 f (p + 2)))) = 1) := of_decide_eq_false c_104
                    have n_104 : tg f E (by2 f (p + 2)) = 1 := (eq_nI (p := tg f E (by2 f (p + 2))) (n := 1) (Nat.lt_trans (tg_lt _ _ _) (by decide)) (by decide)).mp (Decidable.not_not.mp c_104)
                    refine ps_st (S' := (108, [(0, .ref m0), (1, .int (nI p)), (2, .int (nI (by2 f pF))), (3, .int (nI f0)), (4, .int (nI k)), (5, .int (nI (by2 f p)))], [.ref m0], M1)) rfl rfl rfl ?_
                    refine ps_st (S' := (109, [(0, .ref m0), (1, .int (nI p)), (2, .int (nI (by2 f pF))), (3, .int (nI f0)), (4, .int (nI k)), (5, .int (nI (by2 f p)))], [.ref m0, .ref m0], M1)) rfl rfl rfl ?_
                    refine ps_st (S' := (110, [(0, .ref m0), (1, .int (nI p)), (2, .int (nI (by2 f pF))), (3, .int (nI f0)), (4, .int (nI k)), (5, .int (nI (by2 f p)))], [.ref m0, .ref m0, .ref m0], M1)) rfl rfl rfl ?_
                    refine ps_st (S' := (111, [(0, .ref m0), (1, .int (nI p)), (2, .int (nI (by2 f pF))), (3, .int (nI f0)), (4, .int (nI k)), (5, .int (nI (by2 f p)))], [.int (nI p), .ref m0, .ref m0, .ref m0], M1)) rfl rfl rfl ?_
                    refine ps_st (S' := (112, [(0, .ref m0), (1, .int (nI p)), (2, .int (nI (by2 f pF))), (3, .int (nI f0)), (4, .int (nI k)), (5, .int (nI (by2 f p)))], [.int 2, .int (nI p), .ref m0, .ref m0, .ref m0], M1)) rfl rfl rfl ?_
                    refine ps_st (S' := (113, [(0, .ref m0), (1, .int (nI p)), (2, .int (nI (by2 f pF))), (3, .int (nI f0)), (4, .int (nI k)), (5, .int (nI (by2 f p)))], [.int ((nI p) + 2), .ref m0, .ref m0, .ref m0], M1)) rfl rfl rfl ?_
                    rw [nI_add1 (p := p) (k := 2) (x := 2) rfl (by omega)]
                    show pl _ _ _ (_, [(0, .ref m0), (1, .int (nI p)), (2, .int (nI (by2 f pF))), (3, .int (nI f0)), (4, .int (nI k)), (5, .int (nI (by2 f p)))], [.int (nI (p + 2)), .ref m0, .ref m0, .ref m0], M1) _
                    refine pl_call (a := [.ref m0, .int (nI (p + 2))]) (rest := [.ref m0, .ref m0]) rfl rfl rfl (rd_u2 (n := n) (f := f) (p := (p + 2)) hR1 hF1 (by omega)) (fun v294 M295 q296 => ?_)
                    obtain ⟨rfl, rfl⟩ := q296
                    show pl _ _ _ (116, [(0, .ref m0), (1, .int (nI p)), (2, .int (nI (by2 f pF))), (3, .int (nI f0)), (4, .int (nI k)), (5, .int (nI (by2 f p)))], [.int (nI (by2 f (p + 2))), .ref m0, .ref m0], M1) _
                    have hu_113 := by2_lt f (p + 2)
                    refine pl_call (a := [.ref m0, .int (nI (by2 f (p + 2)))]) (rest := [.ref m0]) rfl rfl rfl (rd_symOf (n := n) (f := f) (tx := tx) (cN := cN) (A := A) (N := N) (mj := mj) (E := E) (k := (by2 f (p + 2))) hR1 hl51 hl52 hl53 hF1 hY1 hP1 (hEP) (hN) (hmj) (by omega)) (fun v297 M298 q299 => ?_)
                    obtain ⟨s300, q116_s, rfl, rfl⟩ := q299
                    show pl _ _ _ (119, [(0, .ref m0), (1, .int (nI p)), (2, .int (nI (by2 f pF))), (3, .int (nI f0)), (4, .int (nI k)), (5, .int (nI (by2 f p)))], [.int (nI s300), .ref m0], M1) _
                    have hsl_116 := q116_s.1
                    have htl_116 := hY1.1.2.2.1
                    refine ps_st (S' := (120, [(0, .ref m0), (1, .int (nI p)), (2, .int (nI (by2 f pF))), (3, .int (nI f0)), (4, .int (nI k)), (5, .int (nI (by2 f p)))], [.int 1, .int (nI s300), .ref m0], M1)) rfl rfl rfl ?_
                    refine pl_call (a := [.ref m0, .int (nI s300), .int 1]) (rest := []) rfl rfl rfl (rd_unq1 (tx := tx) (cN := cN) (A := A) (s := s300) (l := (tX f n E (by2 f (p + 2)))) hR1 hY1 (q116_s)) (fun v301 M302 q303 => ?_)
                    obtain ⟨rfl, rfl⟩ := q303
                    show pl _ _ _ (123, [(0, .ref m0), (1, .int (nI p)), (2, .int (nI (by2 f pF))), (3, .int (nI f0)), (4, .int (nI k)), (5, .int (nI (by2 f p)))], [.int (nI (unqN (tX f n E (by2 f (p + 2)))))], M1) _
                    refine ps_if (S1 := (136, [(0, .ref m0), (1, .int (nI p)), (2, .int (nI (by2 f pF))), (3, .int (nI f0)), (4, .int (nI k)), (5, .int (nI (by2 f p)))], [], M1)) (S2 := (126, [(0, .ref m0), (1, .int (nI p))], [], M1)) rfl rfl rfl (fun c_123 => ?_) (fun c_123 => ?_)
                    · have c_123 : ¬ (nI (unqN (tX f n E (by2 f (p + 2))))) = 0 := of_decide_eq_true c_123
                      have n_123 : ¬ (unqN (tX f n E (by2 f (p + 2))) = 0) := fun h9 => c_123 ((eq_nI (p := unqN (tX f n E (by2 f (p + 2)))) (n := 0) (Nat.lt_trans (le1_unq _) (by decide)) (by decide)).mpr h9)
                      refine ps_st (S' := (137, [(0, .ref m0), (1, .int (nI p)), (2, .int (nI (by2 f pF))), (3, .int (nI f0)), (4, .int (nI k)), (5, .int (nI (by2 f p)))], [.ref m0], M1)) rfl rfl rfl ?_
                      refine ps_st (S' := (138, [(0, .ref m0), (1, .int (nI p)), (2, .int (nI (by2 f pF))), (3, .int (nI f0)), (4, .int (nI k)), (5, .int (nI (by2 f p)))], [.ref m0, .ref m0], M1)) rfl rfl rfl ?_
                      refine ps_st (S' := (139, [(0, .ref m0), (1, .int (nI p)), (2, .int (nI (by2 f pF))), (3, .int (nI f0)), (4, .int (nI k)), (5, .int (nI (by2 f p)))], [.int (nI p), .ref m0, .ref m0], M1)) rfl rfl rfl ?_
                      refine ps_st (S' := (140, [(0, .ref m0), (1, .int (nI p)), (2, .int (nI (by2 f pF))), (3, .int (nI f0)), (4, .int (nI k)), (5, .int (nI (by2 f p)))], [.int 4, .int (nI p), .ref m0, .ref m0], M1)) rfl rfl rfl ?_
                      refine ps_st (S' := (141, [(0, .ref m0), (1, .int (nI p)), (2, .int (nI (by2 f pF))), (3, .int (nI f0)), (4, .int (nI k)), (5, .int (nI (by2 f p)))], [.int ((nI p) + 4), .ref m0, .ref m0], M1)) rfl rfl rfl ?_
                      rw [nI_add1 (p := p) (k := 4) (x := 4) rfl (by omega)]
                      show pl _ _ _ (_, [(0, .ref m0), (1, .int (nI p)), (2, .int (nI (by2 f pF))), (3, .int (nI f0)), (4, .int (nI k)), (5, .int (nI (by2 f p)))], [.int (nI (p + 4)), .ref m0, .ref m0], M1) _
                      refine pl_call (a := [.ref m0, .int (nI (p + 4))]) (rest := [.ref m0]) rfl rfl rfl (rd_u2 (n := n) (f := f) (p := (p + 4)) hR1 hF1 (by omega)) (fun v304 M305 q306 => ?_)
                      obtain ⟨rfl, rfl⟩ := q306
                      show pl _ _ _ (144, [(0, .ref m0), (1, .int (nI p)), (2, .int (nI (by2 f pF))), (3, .int (nI f0)), (4, .int (nI k)), (5, .int (nI (by2 f p)))], [.int (nI (by2 f (p + 4))), .ref m0], M1) _
                      have hu_141 := by2_lt f (p + 4)
                      refine pl_call (a := [.ref m0, .int (nI (by2 f (p + 4)))]) (rest := []) rfl rfl rfl (rd_tag (n := n) (f := f) (tx := tx) (cN := cN) (A := A) (N := N) (mj := mj) (E := E) (k := (by2 f (p + 4))) hR1 hl51 hl52 hl53 hF1 hY1 hP1 (hEP) (hN) (hmj) (by2_lt _ _)) (fun v307 M308 q309 => ?_)
                      obtain ⟨rfl, rfl⟩ := q309
                      show pl _ _ _ (147, [(0, .ref m0), (1, .int (nI p)), (2, .int (nI (by2 f pF))), (3, .int (nI f0)), (4, .int (nI k)), (5, .int (nI (by2 f p)))], [.int (nI (tg f E (by2 f (p + 4))))], M1) _
                      have htg_144 := tg_lt f E (by2 f (p + 4))
                      refine ps_st (S' := (148, [(0, .ref m0), (1, .int (nI p)), (2, .int (nI (by2 f pF))), (3, .int (nI f0)), (4, .int (nI k)), (5, .int (nI (by2 f p)))], [.int 1, .int (nI (tg f E (by2 f (p + 4))))], M1)) rfl rfl rfl ?_
                      refine ps_if2 (S1 := (169, [(0, .ref m0), (1, .int (nI p))], [], M1)) (S2 := (151, [(0, .ref m0), (1, .int (nI p)), (2, .int (nI (by2 f pF))), (3, .int (nI f0)), (4, .int (nI k)), (5, .int (nI (by2 f p)))], [], M1)) rfl rfl rfl (fun c_148 => ?_) (fun c_148 => ?_)
                      · have c_148 : ¬ (nI (tg f E (by2 f (p + 4)))) = 1 := of_decide_eq_true c_148
                        have n_148 : ¬ (tg f E (by2 f (p + 4)) = 1) := fun h9 => c_148 ((eq_nI (p := tg f E (by2 f (p + 4))) (n := 1) (Nat.lt_trans (tg_lt _ _ _) (by decide)) (by decide)).mpr h9)
                        refine ps_st (S' := (170, [(0, .ref m0), (1, .int (nI p))], [.ref m0], M1)) rfl rfl rfl ?_
                        refine ps_st (S' := (172, [(0, .ref m0), (1, .int (nI p))], [.int 21, .ref m0], M1)) rfl rfl rfl ?_
                        refine ps_st (S' := (173, [(0, .ref m0), (1, .int (nI p))], [.int (nI p), .int 21, .ref m0], M1)) rfl rfl rfl ?_
                        refine ps_st (S' := (174, [(0, .ref m0), (1, .int (nI p))], [.int 4, .int (nI p), .int 21, .ref m0], M1)) rfl rfl rfl ?_
                        refine ps_st (S' := (175, [(0, .ref m0), (1, .int (nI p))], [.int ((nI p) + 4), .int 21, .ref m0], M1)) rfl rfl rfl ?_
                        rw [nI_add1 (p := p) (k := 4) (x := 4) rfl (by omega)]
                        show pl _ _ _ (_, [(0, .ref m0), (1, .int (nI p))], [.int (nI (p + 4)), .int 21, .ref m0], M1) _
                        refine pl_call (a := [.ref m0, .int 21, .int (nI (p + 4))]) (rest := []) rfl rfl rfl (rd_wrong (x1 := 21) (x2 := (nI (p + 4))) hR1) (fun v310 M311 q312 => ?_)
                        obtain ⟨I313, R314, rfl, hR315, hI316, hX317, hi318, hi319⟩ := q312
                        have hi320 := (hI316 51 (by decide)).trans hl51
                        have hi321 := (hI316 52 (by decide)).trans hl52
                        have hi322 := (hI316 53 (by decide)).trans hl53
                        have hi323 := (hI316 58 (by decide)).trans hl58
                        have hi324 := (hI316 55 (by decide)).trans hl55
                        have hi325 := (hI316 25 (by decide)).trans hl25
                        have hF_326 := hF1.mono (cIx hI316 (by decide)) (cRx hX317 (by decide))
                        have hY_327 := hY1.mono (cIx hI316 (by decide)) (cRx hX317 (by decide))
                        have hP_328 := hP1.mono (cIx hI316 (by decide)) (cRx hX317 (by decide))
                        have hK_329 := hK1.mono (cIx hI316 (by decide)) (cRx hX317 (by decide))
                        have hN9_330 := hN91.mono (cIx hI316 (by decide)) (cRx hX317 (by decide))
                        have hEI331 := hEI1.tr hI316 (by decide)
                        have hER332 := hER1.tr hX317 (by decide)
                        show pl _ _ _ (178, [(0, .ref m0), (1, .int (nI p))], [.int 0], M311) _
                        exact ps_ret rfl rfl (Or.inr ⟨(21, p + 4), I313, R314, by
                            rw [← hs, flS_st (i := k) (by omega), ← hpk, fh_21 (by have e1 := ffl_0 cf (by2 f p); have e2 := sev_0 (by2 f p); have e3 := hall_80 (by2 f p); omega) (by omega) (by rw [tx_no (by omega)]; decide)], rfl, hR315, hEI331, hER332, hi318, hi319⟩)
                      · have c_148 : ¬ (¬ (nI (tg f E (by2 f (p + 4)))) = 1) := of_decide_eq_false c_148
                        have n_148 : tg f E (by2 f (p + 4)) = 1 := (eq_nI (p := tg f E (by2 f (p + 4))) (n := 1) (Nat.lt_trans (tg_lt _ _ _) (by decide)) (by decide)).mp (Decidable.not_not.mp c_148)
                        refine ps_st (S' := (152, [(0, .ref m0), (1, .int (nI p)), (2, .int (nI (by2 f pF))), (3, .int (nI f0)), (4, .int (nI k)), (5, .int (nI (by2 f p)))], [.ref m0], M1)) rfl rfl rfl ?_
                        refine ps_st (S' := (153, [(0, .ref m0), (1, .int (nI p)), (2, .int (nI (by2 f pF))), (3, .int (nI f0)), (4, .int (nI k)), (5, .int (nI (by2 f p)))], [.ref m0, .ref m0], M1)) rfl rfl rfl ?_
                        refine ps_st (S' := (154, [(0, .ref m0), (1, .int (nI p)), (2, .int (nI (by2 f pF))), (3, .int (nI f0)), (4, .int (nI k)), (5, .int (nI (by2 f p)))], [.ref m0, .ref m0, .ref m0], M1)) rfl rfl rfl ?_
                        refine ps_st (S' := (155, [(0, .ref m0), (1, .int (nI p)), (2, .int (nI (by2 f pF))), (3, .int (nI f0)), (4, .int (nI k)), (5, .int (nI (by2 f p)))], [.int (nI p), .ref m0, .ref m0, .ref m0], M1)) rfl rfl rfl ?_
                        refine ps_st (S' := (156, [(0, .ref m0), (1, .int (nI p)), (2, .int (nI (by2 f pF))), (3, .int (nI f0)), (4, .int (nI k)), (5, .int (nI (by2 f p)))], [.int 4, .int (nI p), .ref m0, .ref m0, .ref m0], M1)) rfl rfl rfl ?_
                        refine ps_st (S' := (157, [(0, .ref m0), (1, .int (nI p)), (2, .int (nI (by2 f pF))), (3, .int (nI f0)), (4, .int (nI k)), (5, .int (nI (by2 f p)))], [.int ((nI p) + 4), .ref m0, .ref m0, .ref m0], M1)) rfl rfl rfl ?_
                        rw [nI_add1 (p := p) (k := 4) (x := 4) rfl (by omega)]
                        show pl _ _ _ (_, [(0, .ref m0), (1, .int (nI p)), (2, .int (nI (by2 f pF))), (3, .int (nI f0)), (4, .int (nI k)), (5, .int (nI (by2 f p)))], [.int (nI (p + 4)), .ref m0, .ref m0, .ref m0], M1) _
                        refine pl_call (a := [.ref m0, .int (nI (p + 4))]) (rest := [.ref m0, .ref m0]) rfl rfl rfl (rd_u2 (n := n) (f := f) (p := (p + 4)) hR1 hF1 (by omega)) (fun v333 M334 q335 => ?_)
                        obtain ⟨rfl, rfl⟩ := q335
                        show pl _ _ _ (160, [(0, .ref m0), (1, .int (nI p)), (2, .int (nI (by2 f pF))), (3, .int (nI f0)), (4, .int (nI k)), (5, .int (nI (by2 f p)))], [.int (nI (by2 f (p + 4))), .ref m0, .ref m0], M1) _
                        have hu_157 := by2_lt f (p + 4)
                        refine pl_call (a := [.ref m0, .int (nI (by2 f (p + 4)))]) (rest := [.ref m0]) rfl rfl rfl (rd_symOf (n := n) (f := f) (tx := tx) (cN := cN) (A := A) (N := N) (mj := mj) (E := E) (k := (by2 f (p + 4))) hR1 hl51 hl52 hl53 hF1 hY1 hP1 (hEP) (hN) (hmj) (by omega)) (fun v336 M337 q338 => ?_)
                        obtain ⟨s339, q160_s, rfl, rfl⟩ := q338
                        show pl _ _ _ (163, [(0, .ref m0), (1, .int (nI p)), (2, .int (nI (by2 f pF))), (3, .int (nI f0)), (4, .int (nI k)), (5, .int (nI (by2 f p)))], [.int (nI s339), .ref m0], M1) _
                        have hsl_160 := q160_s.1
                        have htl_160 := hY1.1.2.2.1
                        refine pl_call (a := [.ref m0, .int (nI s339)]) (rest := []) rfl rfl rfl (rd_isField (tx := tx) (cN := cN) (A := A) (s := s339) (l := (tX f n E (by2 f (p + 4)))) hR1 hY1 (q160_s)) (fun v340 M341 q342 => ?_)
                        obtain ⟨rfl, rfl⟩ := q342
                        show pl _ _ _ (166, [(0, .ref m0), (1, .int (nI p)), (2, .int (nI (by2 f pF))), (3, .int (nI f0)), (4, .int (nI k)), (5, .int (nI (by2 f p)))], [.int (nI (fldN (tX f n E (by2 f (p + 4)))))], M1) _
                        refine ps_if (S1 := (179, [(0, .ref m0), (1, .int (nI p)), (2, .int (nI (by2 f pF))), (3, .int (nI f0)), (4, .int (nI k)), (5, .int (nI (by2 f p)))], [], M1)) (S2 := (169, [(0, .ref m0), (1, .int (nI p))], [], M1)) rfl rfl rfl (fun c_166 => ?_) (fun c_166 => ?_)
                        · have c_166 : ¬ (nI (fldN (tX f n E (by2 f (p + 4))))) = 0 := of_decide_eq_true c_166
                          have n_166 : ¬ (fldN (tX f n E (by2 f (p + 4))) = 0) := fun h9 => c_166 ((eq_nI (p := fldN (tX f n E (by2 f (p + 4)))) (n := 0) (Nat.lt_trans (le1_fld _) (by decide)) (by decide)).mpr h9)
                          refine ps_st (S' := (180, [(0, .ref m0), (1, .int (nI p)), (2, .int (nI (by2 f pF))), (3, .int (nI f0)), (4, .int (nI k)), (5, .int (nI (by2 f p)))], [.ref m0], M1)) rfl rfl rfl ?_
                          refine pr_int (j := 25) (S' := (183, [(0, .ref m0), (1, .int (nI p)), (2, .int (nI (by2 f pF))), (3, .int (nI f0)), (4, .int (nI k)), (5, .int (nI (by2 f p)))], [.int (nI (f0 + k))], M1)) rfl hR1 rfl hl25 rfl ?_
                          refine ps_st (S' := (185, [(6, .int (nI (f0 + k))), (0, .ref m0), (1, .int (nI p)), (2, .int (nI (by2 f pF))), (3, .int (nI f0)), (4, .int (nI k)), (5, .int (nI (by2 f p)))], [], M1)) rfl rfl rfl ?_
                          refine ps_st (S' := (186, [(6, .int (nI (f0 + k))), (0, .ref m0), (1, .int (nI p)), (2, .int (nI (by2 f pF))), (3, .int (nI f0)), (4, .int (nI k)), (5, .int (nI (by2 f p)))], [.ref m0], M1)) rfl rfl rfl ?_
                          refine pr_ref (j := 27) (S' := (189, [(6, .int (nI (f0 + k))), (0, .ref m0), (1, .int (nI p)), (2, .int (nI (by2 f pF))), (3, .int (nI f0)), (4, .int (nI k)), (5, .int (nI (by2 f p)))], [.ref (q 27)], M1)) rfl hR1 rfl rfl ?_
                          refine ps_st (S' := (191, [(6, .int (nI (f0 + k))), (0, .ref m0), (1, .int (nI p)), (2, .int (nI (by2 f pF))), (3, .int (nI f0)), (4, .int (nI k)), (5, .int (nI (by2 f p)))], [.int (nI (f0 + k)), .ref (q 27)], M1)) rfl rfl rfl ?_
                          refine ps_st (S' := (193, [(6, .int (nI (f0 + k))), (0, .ref m0), (1, .int (nI p)), (2, .int (nI (by2 f pF))), (3, .int (nI f0)), (4, .int (nI k)), (5, .int (nI (by2 f p)))], [.int (nI (by2 f p)), .int (nI (f0 + k)), .ref (q 27)], M1)) rfl rfl rfl ?_
                          refine pr_st (a := 27) (j := f0 + k) rfl hR1 rfl (by omega) (fun M343 R344 i1_193 hR345 hS346 => ?_)
                          have hF_347 := hF1.mono (fun _ _ => rfl) (rRx hS346 (by decide))
                          have hY_348 := hY1.mono (fun _ _ => rfl) (rRx hS346 (by decide))
                          have hP_349 := hP1.mono (fun _ _ => rfl) (rRx hS346 (by decide))
                          have hK_350 := hK1.mono (fun _ _ => rfl) (rRx hS346 (by decide))
                          have hN9_351 := hN91.mono (fun _ _ => rfl) (rRx hS346 (by decide))
                          have hER352 := hER1.st hS346 (by decide)
                          show pl _ _ _ (194, [(6, .int (nI (f0 + k))), (0, .ref m0), (1, .int (nI p)), (2, .int (nI (by2 f pF))), (3, .int (nI f0)), (4, .int (nI k)), (5, .int (nI (by2 f p)))], [], M343) _
                          have c27_353 : CE 27 (f0 + k) (nI (by2 f p)) I1 R344 := CE.st hS346
                          refine ps_st (S' := (195, [(6, .int (nI (f0 + k))), (0, .ref m0), (1, .int (nI p)), (2, .int (nI (by2 f pF))), (3, .int (nI f0)), (4, .int (nI k)), (5, .int (nI (by2 f p)))], [.ref m0], M343)) rfl rfl rfl ?_
                          refine pr_ref (j := 28) (S' := (198, [(6, .int (nI (f0 + k))), (0, .ref m0), (1, .int (nI p)), (2, .int (nI (by2 f pF))), (3, .int (nI f0)), (4, .int (nI k)), (5, .int (nI (by2 f p)))], [.ref (q 28)], M343)) rfl hR345 rfl rfl ?_
                          refine ps_st (S' := (200, [(6, .int (nI (f0 + k))), (0, .ref m0), (1, .int (nI p)), (2, .int (nI (by2 f pF))), (3, .int (nI f0)), (4, .int (nI k)), (5, .int (nI (by2 f p)))], [.int (nI (f0 + k)), .ref (q 28)], M343)) rfl rfl rfl ?_
                          refine ps_st (S' := (201, [(6, .int (nI (f0 + k))), (0, .ref m0), (1, .int (nI p)), (2, .int (nI (by2 f pF))), (3, .int (nI f0)), (4, .int (nI k)), (5, .int (nI (by2 f p)))], [.ref m0, .int (nI (f0 + k)), .ref (q 28)], M343)) rfl rfl rfl ?_
                          refine ps_st (S' := (202, [(6, .int (nI (f0 + k))), (0, .ref m0), (1, .int (nI p)), (2, .int (nI (by2 f pF))), (3, .int (nI f0)), (4, .int (nI k)), (5, .int (nI (by2 f p)))], [.ref m0, .ref m0, .int (nI (f0 + k)), .ref (q 28)], M343)) rfl rfl rfl ?_
                          refine ps_st (S' := (203, [(6, .int (nI (f0 + k))), (0, .ref m0), (1, .int (nI p)), (2, .int (nI (by2 f pF))), (3, .int (nI f0)), (4, .int (nI k)), (5, .int (nI (by2 f p)))], [.int (nI p), .ref m0, .ref m0, .int (nI (f0 + k)), .ref (q 28)], M343)) rfl rfl rfl ?_
                          refine ps_st (S' := (204, [(6, .int (nI (f0 + k))), (0, .ref m0), (1, .int (nI p)), (2, .int (nI (by2 f pF))), (3, .int (nI f0)), (4, .int (nI k)), (5, .int (nI (by2 f p)))], [.int 2, .int (nI p), .ref m0, .ref m0, .int (nI (f0 + k)), .ref (q 28)], M343)) rfl rfl rfl ?_
                          refine ps_st (S' := (205, [(6, .int (nI (f0 + k))), (0, .ref m0), (1, .int (nI p)), (2, .int (nI (by2 f pF))), (3, .int (nI f0)), (4, .int (nI k)), (5, .int (nI (by2 f p)))], [.int ((nI p) + 2), .ref m0, .ref m0, .int (nI (f0 + k)), .ref (q 28)], M343)) rfl rfl rfl ?_
                          rw [nI_add1 (p := p) (k := 2) (x := 2) rfl (by omega)]
                          show pl _ _ _ (_, [(6, .int (nI (f0 + k))), (0, .ref m0), (1, .int (nI p)), (2, .int (nI (by2 f pF))), (3, .int (nI f0)), (4, .int (nI k)), (5, .int (nI (by2 f p)))], [.int (nI (p + 2)), .ref m0, .ref m0, .int (nI (f0 + k)), .ref (q 28)], M343) _
                          refine pl_call (a := [.ref m0, .int (nI (p + 2))]) (rest := [.ref m0, .int (nI (f0 + k)), .ref (q 28)]) rfl rfl rfl (rd_u2 (n := n) (f := f) (p := (p + 2)) hR345 hF_347 (by omega)) (fun v354 M355 q356 => ?_)
                          obtain ⟨rfl, rfl⟩ := q356
                          show pl _ _ _ (208, [(6, .int (nI (f0 + k))), (0, .ref m0), (1, .int (nI p)), (2, .int (nI (by2 f pF))), (3, .int (nI f0)), (4, .int (nI k)), (5, .int (nI (by2 f p)))], [.int (nI (by2 f (p + 2))), .ref m0, .int (nI (f0 + k)), .ref (q 28)], M343) _
                          have hu_205 := by2_lt f (p + 2)
                          refine pl_call (a := [.ref m0, .int (nI (by2 f (p + 2)))]) (rest := [.int (nI (f0 + k)), .ref (q 28)]) rfl rfl rfl (rd_symOf (n := n) (f := f) (tx := tx) (cN := cN) (A := A) (N := N) (mj := mj) (E := E) (k := (by2 f (p + 2))) hR345 hl51 hl52 hl53 hF_347 hY_348 hP_349 (hEP) (hN) (hmj) (by omega)) (fun v357 M358 q359 => ?_)
                          obtain ⟨s360, q208_s, rfl, rfl⟩ := q359
                          show pl _ _ _ (211, [(6, .int (nI (f0 + k))), (0, .ref m0), (1, .int (nI p)), (2, .int (nI (by2 f pF))), (3, .int (nI f0)), (4, .int (nI k)), (5, .int (nI (by2 f p)))], [.int (nI s360), .int (nI (f0 + k)), .ref (q 28)], M343) _
                          have hsl_208 := q208_s.1
                          have htl_208 := hY_348.1.2.2.1
                          refine pr_st (a := 28) (j := f0 + k) rfl hR345 rfl (by omega) (fun M361 R362 i1_211 hR363 hS364 => ?_)
                          have hF_365 := hF_347.mono (fun _ _ => rfl) (rRx hS364 (by decide))
                          have hY_366 := hY_348.mono (fun _ _ => rfl) (rRx hS364 (by decide))
                          have hP_367 := hP_349.mono (fun _ _ => rfl) (rRx hS364 (by decide))
                          have hK_368 := hK_350.mono (fun _ _ => rfl) (rRx hS364 (by decide))
                          have c27_369 := c27_353.mono (fun _ _ => rfl) (rRx hS364 (by decide))
                          have hER370 := hER352.st hS364 (by decide)
                          show pl _ _ _ (212, [(6, .int (nI (f0 + k))), (0, .ref m0), (1, .int (nI p)), (2, .int (nI (by2 f pF))), (3, .int (nI f0)), (4, .int (nI k)), (5, .int (nI (by2 f p)))], [], M361) _
                          have c28_371 : CE 28 (f0 + k) (nI s360) I1 R362 := CE.st hS364
                          have hN9_372 := FN.st (I' := I1) hN9_351 hS364 rfl
                          refine ps_st (S' := (213, [(6, .int (nI (f0 + k))), (0, .ref m0), (1, .int (nI p)), (2, .int (nI (by2 f pF))), (3, .int (nI f0)), (4, .int (nI k)), (5, .int (nI (by2 f p)))], [.ref m0], M361)) rfl rfl rfl ?_
                          refine pr_ref (j := 29) (S' := (216, [(6, .int (nI (f0 + k))), (0, .ref m0), (1, .int (nI p)), (2, .int (nI (by2 f pF))), (3, .int (nI f0)), (4, .int (nI k)), (5, .int (nI (by2 f p)))], [.ref (q 29)], M361)) rfl hR363 rfl rfl ?_
                          refine ps_st (S' := (218, [(6, .int (nI (f0 + k))), (0, .ref m0), (1, .int (nI p)), (2, .int (nI (by2 f pF))), (3, .int (nI f0)), (4, .int (nI k)), (5, .int (nI (by2 f p)))], [.int (nI (f0 + k)), .ref (q 29)], M361)) rfl rfl rfl ?_
                          refine ps_st (S' := (219, [(6, .int (nI (f0 + k))), (0, .ref m0), (1, .int (nI p)), (2, .int (nI (by2 f pF))), (3, .int (nI f0)), (4, .int (nI k)), (5, .int (nI (by2 f p)))], [.ref m0, .int (nI (f0 + k)), .ref (q 29)], M361)) rfl rfl rfl ?_
                          refine ps_st (S' := (220, [(6, .int (nI (f0 + k))), (0, .ref m0), (1, .int (nI p)), (2, .int (nI (by2 f pF))), (3, .int (nI f0)), (4, .int (nI k)), (5, .int (nI (by2 f p)))], [.ref m0, .ref m0, .int (nI (f0 + k)), .ref (q 29)], M361)) rfl rfl rfl ?_
                          refine ps_st (S' := (221, [(6, .int (nI (f0 + k))), (0, .ref m0), (1, .int (nI p)), (2, .int (nI (by2 f pF))), (3, .int (nI f0)), (4, .int (nI k)), (5, .int (nI (by2 f p)))], [.int (nI p), .ref m0, .ref m0, .int (nI (f0 + k)), .ref (q 29)], M361)) rfl rfl rfl ?_
                          refine ps_st (S' := (222, [(6, .int (nI (f0 + k))), (0, .ref m0), (1, .int (nI p)), (2, .int (nI (by2 f pF))), (3, .int (nI f0)), (4, .int (nI k)), (5, .int (nI (by2 f p)))], [.int 4, .int (nI p), .ref m0, .ref m0, .int (nI (f0 + k)), .ref (q 29)], M361)) rfl rfl rfl ?_
                          refine ps_st (S' := (223, [(6, .int (nI (f0 + k))), (0, .ref m0), (1, .int (nI p)), (2, .int (nI (by2 f pF))), (3, .int (nI f0)), (4, .int (nI k)), (5, .int (nI (by2 f p)))], [.int ((nI p) + 4), .ref m0, .ref m0, .int (nI (f0 + k)), .ref (q 29)], M361)) rfl rfl rfl ?_
                          rw [nI_add1 (p := p) (k := 4) (x := 4) rfl (by omega)]
                          show pl _ _ _ (_, [(6, .int (nI (f0 + k))), (0, .ref m0), (1, .int (nI p)), (2, .int (nI (by2 f pF))), (3, .int (nI f0)), (4, .int (nI k)), (5, .int (nI (by2 f p)))], [.int (nI (p + 4)), .ref m0, .ref m0, .int (nI (f0 + k)), .ref (q 29)], M361) _
                          refine pl_call (a := [.ref m0, .int (nI (p + 4))]) (rest := [.ref m0, .int (nI (f0 + k)), .ref (q 29)]) rfl rfl rfl (rd_u2 (n := n) (f := f) (p := (p + 4)) hR363 hF_365 (by omega)) (fun v373 M374 q375 => ?_)
                          obtain ⟨rfl, rfl⟩ := q375
                          show pl _ _ _ (226, [(6, .int (nI (f0 + k))), (0, .ref m0), (1, .int (nI p)), (2, .int (nI (by2 f pF))), (3, .int (nI f0)), (4, .int (nI k)), (5, .int (nI (by2 f p)))], [.int (nI (by2 f (p + 4))), .ref m0, .int (nI (f0 + k)), .ref (q 29)], M361) _
                          have hu_223 := by2_lt f (p + 4)
                          refine pl_call (a := [.ref m0, .int (nI (by2 f (p + 4)))]) (rest := [.int (nI (f0 + k)), .ref (q 29)]) rfl rfl rfl (rd_symOf (n := n) (f := f) (tx := tx) (cN := cN) (A := A) (N := N) (mj := mj) (E := E) (k := (by2 f (p + 4))) hR363 hl51 hl52 hl53 hF_365 hY_366 hP_367 (hEP) (hN) (hmj) (by omega)) (fun v376 M377 q378 => ?_)
                          obtain ⟨s379, q226_s, rfl, rfl⟩ := q378
                          show pl _ _ _ (229, [(6, .int (nI (f0 + k))), (0, .ref m0), (1, .int (nI p)), (2, .int (nI (by2 f pF))), (3, .int (nI f0)), (4, .int (nI k)), (5, .int (nI (by2 f p)))], [.int (nI s379), .int (nI (f0 + k)), .ref (q 29)], M361) _
                          have hsl_226 := q226_s.1
                          have htl_226 := hY_366.1.2.2.1
                          refine pr_st (a := 29) (j := f0 + k) rfl hR363 rfl (by omega) (fun M380 R381 i1_229 hR382 hS383 => ?_)
                          have hF_384 := hF_365.mono (fun _ _ => rfl) (rRx hS383 (by decide))
                          have hY_385 := hY_366.mono (fun _ _ => rfl) (rRx hS383 (by decide))
                          have hP_386 := hP_367.mono (fun _ _ => rfl) (rRx hS383 (by decide))
                          have hK_387 := hK_368.mono (fun _ _ => rfl) (rRx hS383 (by decide))
                          have c27_388 := c27_369.mono (fun _ _ => rfl) (rRx hS383 (by decide))
                          have c28_389 := c28_371.mono (fun _ _ => rfl) (rRx hS383 (by decide))
                          have hER390 := hER370.st hS383 (by decide)
                          show pl _ _ _ (230, [(6, .int (nI (f0 + k))), (0, .ref m0), (1, .int (nI p)), (2, .int (nI (by2 f pF))), (3, .int (nI f0)), (4, .int (nI k)), (5, .int (nI (by2 f p)))], [], M380) _
                          have c29_391 : CE 29 (f0 + k) (nI s379) I1 R381 := CE.st hS383
                          have hN9_392 := FN.st (I' := I1) hN9_372 hS383 rfl
                          refine ps_st (S' := (231, [(6, .int (nI (f0 + k))), (0, .ref m0), (1, .int (nI p)), (2, .int (nI (by2 f pF))), (3, .int (nI f0)), (4, .int (nI k)), (5, .int (nI (by2 f p)))], [.ref m0], M380)) rfl rfl rfl ?_
                          refine pr_ref (j := 30) (S' := (234, [(6, .int (nI (f0 + k))), (0, .ref m0), (1, .int (nI p)), (2, .int (nI (by2 f pF))), (3, .int (nI f0)), (4, .int (nI k)), (5, .int (nI (by2 f p)))], [.ref (q 30)], M380)) rfl hR382 rfl rfl ?_
                          refine ps_st (S' := (236, [(6, .int (nI (f0 + k))), (0, .ref m0), (1, .int (nI p)), (2, .int (nI (by2 f pF))), (3, .int (nI f0)), (4, .int (nI k)), (5, .int (nI (by2 f p)))], [.int (nI (f0 + k)), .ref (q 30)], M380)) rfl rfl rfl ?_
                          refine ps_st (S' := (237, [(6, .int (nI (f0 + k))), (0, .ref m0), (1, .int (nI p)), (2, .int (nI (by2 f pF))), (3, .int (nI f0)), (4, .int (nI k)), (5, .int (nI (by2 f p)))], [.int 0, .int (nI (f0 + k)), .ref (q 30)], M380)) rfl rfl rfl ?_
                          refine pr_st (a := 30) (j := f0 + k) rfl hR382 rfl (by omega) (fun M393 R394 i1_237 hR395 hS396 => ?_)
                          have hF_397 := hF_384.mono (fun _ _ => rfl) (rRx hS396 (by decide))
                          have hY_398 := hY_385.mono (fun _ _ => rfl) (rRx hS396 (by decide))
                          have hP_399 := hP_386.mono (fun _ _ => rfl) (rRx hS396 (by decide))
                          have hK_400 := hK_387.mono (fun _ _ => rfl) (rRx hS396 (by decide))
                          have c27_401 := c27_388.mono (fun _ _ => rfl) (rRx hS396 (by decide))
                          have c28_402 := c28_389.mono (fun _ _ => rfl) (rRx hS396 (by decide))
                          have c29_403 := c29_391.mono (fun _ _ => rfl) (rRx hS396 (by decide))
                          have hN9_404 := hN9_392.mono (fun _ _ => rfl) (rRx hS396 (by decide))
                          have hER405 := hER390.st hS396 (by decide)
                          show pl _ _ _ (238, [(6, .int (nI (f0 + k))), (0, .ref m0), (1, .int (nI p)), (2, .int (nI (by2 f pF))), (3, .int (nI f0)), (4, .int (nI k)), (5, .int (nI (by2 f p)))], [], M393) _
                          refine ps_st (S' := (239, [(6, .int (nI (f0 + k))), (0, .ref m0), (1, .int (nI p)), (2, .int (nI (by2 f pF))), (3, .int (nI f0)), (4, .int (nI k)), (5, .int (nI (by2 f p)))], [.ref m0], M393)) rfl rfl rfl ?_
                          refine pr_ref (j := 31) (S' := (242, [(6, .int (nI (f0 + k))), (0, .ref m0), (1, .int (nI p)), (2, .int (nI (by2 f pF))), (3, .int (nI f0)), (4, .int (nI k)), (5, .int (nI (by2 f p)))], [.ref (q 31)], M393)) rfl hR395 rfl rfl ?_
                          refine ps_st (S' := (244, [(6, .int (nI (f0 + k))), (0, .ref m0), (1, .int (nI p)), (2, .int (nI (by2 f pF))), (3, .int (nI f0)), (4, .int (nI k)), (5, .int (nI (by2 f p)))], [.int (nI (f0 + k)), .ref (q 31)], M393)) rfl rfl rfl ?_
                          refine ps_st (S' := (245, [(6, .int (nI (f0 + k))), (0, .ref m0), (1, .int (nI p)), (2, .int (nI (by2 f pF))), (3, .int (nI f0)), (4, .int (nI k)), (5, .int (nI (by2 f p)))], [.int 0, .int (nI (f0 + k)), .ref (q 31)], M393)) rfl rfl rfl ?_
                          refine pr_st (a := 31) (j := f0 + k) rfl hR395 rfl (by omega) (fun M406 R407 i1_245 hR408 hS409 => ?_)
                          have hF_410 := hF_397.mono (fun _ _ => rfl) (rRx hS409 (by decide))
                          have hY_411 := hY_398.mono (fun _ _ => rfl) (rRx hS409 (by decide))
                          have hP_412 := hP_399.mono (fun _ _ => rfl) (rRx hS409 (by decide))
                          have hK_413 := hK_400.mono (fun _ _ => rfl) (rRx hS409 (by decide))
                          have c27_414 := c27_401.mono (fun _ _ => rfl) (rRx hS409 (by decide))
                          have c28_415 := c28_402.mono (fun _ _ => rfl) (rRx hS409 (by decide))
                          have c29_416 := c29_403.mono (fun _ _ => rfl) (rRx hS409 (by decide))
                          have hN9_417 := hN9_404.mono (fun _ _ => rfl) (rRx hS409 (by decide))
                          have hER418 := hER405.st hS409 (by decide)
                          show pl _ _ _ (246, [(6, .int (nI (f0 + k))), (0, .ref m0), (1, .int (nI p)), (2, .int (nI (by2 f pF))), (3, .int (nI f0)), (4, .int (nI k)), (5, .int (nI (by2 f p)))], [], M406) _
                          refine ps_st (S' := (247, [(6, .int (nI (f0 + k))), (0, .ref m0), (1, .int (nI p)), (2, .int (nI (by2 f pF))), (3, .int (nI f0)), (4, .int (nI k)), (5, .int (nI (by2 f p)))], [.ref m0], M406)) rfl rfl rfl ?_
                          refine pr_ref (j := 32) (S' := (250, [(6, .int (nI (f0 + k))), (0, .ref m0), (1, .int (nI p)), (2, .int (nI (by2 f pF))), (3, .int (nI f0)), (4, .int (nI k)), (5, .int (nI (by2 f p)))], [.ref (q 32)], M406)) rfl hR408 rfl rfl ?_
                          refine ps_st (S' := (252, [(6, .int (nI (f0 + k))), (0, .ref m0), (1, .int (nI p)), (2, .int (nI (by2 f pF))), (3, .int (nI f0)), (4, .int (nI k)), (5, .int (nI (by2 f p)))], [.int (nI (f0 + k)), .ref (q 32)], M406)) rfl rfl rfl ?_
                          refine ps_st (S' := (253, [(6, .int (nI (f0 + k))), (0, .ref m0), (1, .int (nI p)), (2, .int (nI (by2 f pF))), (3, .int (nI f0)), (4, .int (nI k)), (5, .int (nI (by2 f p)))], [.ref m0, .int (nI (f0 + k)), .ref (q 32)], M406)) rfl rfl rfl ?_
                          refine ps_st (S' := (254, [(6, .int (nI (f0 + k))), (0, .ref m0), (1, .int (nI p)), (2, .int (nI (by2 f pF))), (3, .int (nI f0)), (4, .int (nI k)), (5, .int (nI (by2 f p)))], [.int (nI p), .ref m0, .int (nI (f0 + k)), .ref (q 32)], M406)) rfl rfl rfl ?_
                          refine ps_st (S' := (255, [(6, .int (nI (f0 + k))), (0, .ref m0), (1, .int (nI p)), (2, .int (nI (by2 f pF))), (3, .int (nI f0)), (4, .int (nI k)), (5, .int (nI (by2 f p)))], [.int 2, .int (nI p), .ref m0, .int (nI (f0 + k)), .ref (q 32)], M406)) rfl rfl rfl ?_
                          refine ps_st (S' := (256, [(6, .int (nI (f0 + k))), (0, .ref m0), (1, .int (nI p)), (2, .int (nI (by2 f pF))), (3, .int (nI f0)), (4, .int (nI k)), (5, .int (nI (by2 f p)))], [.int ((nI p) + 2), .ref m0, .int (nI (f0 + k)), .ref (q 32)], M406)) rfl rfl rfl ?_
                          rw [nI_add1 (p := p) (k := 2) (x := 2) rfl (by omega)]
                          show pl _ _ _ (_, [(6, .int (nI (f0 + k))), (0, .ref m0), (1, .int (nI p)), (2, .int (nI (by2 f pF))), (3, .int (nI f0)), (4, .int (nI k)), (5, .int (nI (by2 f p)))], [.int (nI (p + 2)), .ref m0, .int (nI (f0 + k)), .ref (q 32)], M406) _
                          refine pl_call (a := [.ref m0, .int (nI (p + 2))]) (rest := [.int (nI (f0 + k)), .ref (q 32)]) rfl rfl rfl (rd_u2 (n := n) (f := f) (p := (p + 2)) hR408 hF_410 (by omega)) (fun v419 M420 q421 => ?_)
                          obtain ⟨rfl, rfl⟩ := q421
                          show pl _ _ _ (259, [(6, .int (nI (f0 + k))), (0, .ref m0), (1, .int (nI p)), (2, .int (nI (by2 f pF))), (3, .int (nI f0)), (4, .int (nI k)), (5, .int (nI (by2 f p)))], [.int (nI (by2 f (p + 2))), .int (nI (f0 + k)), .ref (q 32)], M406) _
                          have hu_256 := by2_lt f (p + 2)
                          refine pr_st (a := 32) (j := f0 + k) rfl hR408 rfl (by omega) (fun M422 R423 i1_259 hR424 hS425 => ?_)
                          have hF_426 := hF_410.mono (fun _ _ => rfl) (rRx hS425 (by decide))
                          have hY_427 := hY_411.mono (fun _ _ => rfl) (rRx hS425 (by decide))
                          have hP_428 := hP_412.mono (fun _ _ => rfl) (rRx hS425 (by decide))
                          have hK_429 := hK_413.mono (fun _ _ => rfl) (rRx hS425 (by decide))
                          have c27_430 := c27_414.mono (fun _ _ => rfl) (rRx hS425 (by decide))
                          have c28_431 := c28_415.mono (fun _ _ => rfl) (rRx hS425 (by decide))
                          have c29_432 := c29_416.mono (fun _ _ => rfl) (rRx hS425 (by decide))
                          have hN9_433 := hN9_417.mono (fun _ _ => rfl) (rRx hS425 (by decide))
                          have hER434 := hER418.st hS425 (by decide)
                          show pl _ _ _ (260, [(6, .int (nI (f0 + k))), (0, .ref m0), (1, .int (nI p)), (2, .int (nI (by2 f pF))), (3, .int (nI f0)), (4, .int (nI k)), (5, .int (nI (by2 f p)))], [], M422) _
                          refine ps_st (S' := (261, [(6, .int (nI (f0 + k))), (0, .ref m0), (1, .int (nI p)), (2, .int (nI (by2 f pF))), (3, .int (nI f0)), (4, .int (nI k)), (5, .int (nI (by2 f p)))], [.ref m0], M422)) rfl rfl rfl ?_
                          refine pr_ref (j := 33) (S' := (264, [(6, .int (nI (f0 + k))), (0, .ref m0), (1, .int (nI p)), (2, .int (nI (by2 f pF))), (3, .int (nI f0)), (4, .int (nI k)), (5, .int (nI (by2 f p)))], [.ref (q 33)], M422)) rfl hR424 rfl rfl ?_
                          refine ps_st (S' := (266, [(6, .int (nI (f0 + k))), (0, .ref m0), (1, .int (nI p)), (2, .int (nI (by2 f pF))), (3, .int (nI f0)), (4, .int (nI k)), (5, .int (nI (by2 f p)))], [.int (nI (f0 + k)), .ref (q 33)], M422)) rfl rfl rfl ?_
                          refine ps_st (S' := (267, [(6, .int (nI (f0 + k))), (0, .ref m0), (1, .int (nI p)), (2, .int (nI (by2 f pF))), (3, .int (nI f0)), (4, .int (nI k)), (5, .int (nI (by2 f p)))], [.ref m0, .int (nI (f0 + k)), .ref (q 33)], M422)) rfl rfl rfl ?_
                          refine ps_st (S' := (268, [(6, .int (nI (f0 + k))), (0, .ref m0), (1, .int (nI p)), (2, .int (nI (by2 f pF))), (3, .int (nI f0)), (4, .int (nI k)), (5, .int (nI (by2 f p)))], [.int (nI p), .ref m0, .int (nI (f0 + k)), .ref (q 33)], M422)) rfl rfl rfl ?_
                          refine ps_st (S' := (269, [(6, .int (nI (f0 + k))), (0, .ref m0), (1, .int (nI p)), (2, .int (nI (by2 f pF))), (3, .int (nI f0)), (4, .int (nI k)), (5, .int (nI (by2 f p)))], [.int 4, .int (nI p), .ref m0, .int (nI (f0 + k)), .ref (q 33)], M422)) rfl rfl rfl ?_
                          refine ps_st (S' := (270, [(6, .int (nI (f0 + k))), (0, .ref m0), (1, .int (nI p)), (2, .int (nI (by2 f pF))), (3, .int (nI f0)), (4, .int (nI k)), (5, .int (nI (by2 f p)))], [.int ((nI p) + 4), .ref m0, .int (nI (f0 + k)), .ref (q 33)], M422)) rfl rfl rfl ?_
                          rw [nI_add1 (p := p) (k := 4) (x := 4) rfl (by omega)]
                          show pl _ _ _ (_, [(6, .int (nI (f0 + k))), (0, .ref m0), (1, .int (nI p)), (2, .int (nI (by2 f pF))), (3, .int (nI f0)), (4, .int (nI k)), (5, .int (nI (by2 f p)))], [.int (nI (p + 4)), .ref m0, .int (nI (f0 + k)), .ref (q 33)], M422) _
                          refine pl_call (a := [.ref m0, .int (nI (p + 4))]) (rest := [.int (nI (f0 + k)), .ref (q 33)]) rfl rfl rfl (rd_u2 (n := n) (f := f) (p := (p + 4)) hR424 hF_426 (by omega)) (fun v435 M436 q437 => ?_)
                          obtain ⟨rfl, rfl⟩ := q437
                          show pl _ _ _ (273, [(6, .int (nI (f0 + k))), (0, .ref m0), (1, .int (nI p)), (2, .int (nI (by2 f pF))), (3, .int (nI f0)), (4, .int (nI k)), (5, .int (nI (by2 f p)))], [.int (nI (by2 f (p + 4))), .int (nI (f0 + k)), .ref (q 33)], M422) _
                          have hu_270 := by2_lt f (p + 4)
                          refine pr_st (a := 33) (j := f0 + k) rfl hR424 rfl (by omega) (fun M438 R439 i1_273 hR440 hS441 => ?_)
                          have hF_442 := hF_426.mono (fun _ _ => rfl) (rRx hS441 (by decide))
                          have hY_443 := hY_427.mono (fun _ _ => rfl) (rRx hS441 (by decide))
                          have hP_444 := hP_428.mono (fun _ _ => rfl) (rRx hS441 (by decide))
                          have hK_445 := hK_429.mono (fun _ _ => rfl) (rRx hS441 (by decide))
                          have c27_446 := c27_430.mono (fun _ _ => rfl) (rRx hS441 (by decide))
                          have c28_447 := c28_431.mono (fun _ _ => rfl) (rRx hS441 (by decide))
                          have c29_448 := c29_432.mono (fun _ _ => rfl) (rRx hS441 (by decide))
                          have hN9_449 := hN9_433.mono (fun _ _ => rfl) (rRx hS441 (by decide))
                          have hER450 := hER434.st hS441 (by decide)
                          show pl _ _ _ (274, [(6, .int (nI (f0 + k))), (0, .ref m0), (1, .int (nI p)), (2, .int (nI (by2 f pF))), (3, .int (nI f0)), (4, .int (nI k)), (5, .int (nI (by2 f p)))], [], M438) _
                          refine ps_st (S' := (275, [(6, .int (nI (f0 + k))), (0, .ref m0), (1, .int (nI p)), (2, .int (nI (by2 f pF))), (3, .int (nI f0)), (4, .int (nI k)), (5, .int (nI (by2 f p)))], [.int (nI f0)], M438)) rfl rfl rfl ?_
                          refine ps_st (S' := (277, [(0, .ref m0), (1, .int (nI p)), (2, .int (nI (by2 f pF))), (3, .int (nI f0)), (4, .int (nI k)), (6, .int (nI (f0 + k))), (7, .int (nI f0))], [], M438)) rfl rfl rfl ?_
                          have h19 : ¬ fflN cf (by2 f p) = 0 := by
                            have e1 := ffl_0 cf (by2 f p)
                            have e2 := sev_0 (by2 f p)
                            have e3 := hall_80 (by2 f p)
                            omega
                          exact ih.2 (k) (p) (0) (s360) (s379) M438 I1 R439 hR440 hEI1 hER450 hl51 hl52 hl53 hl58 hl55 hl25 hF_442 hY_443 hP_444 hK_445 hN9_449 c27_446 c28_447 c29_448 (by omega) (hpk) (by omega) (hs) (by omega) (by omega) (q208_s) (q226_s) (by omega) (by omega) (h19) (by omega) (by omega) (rfl)
                        · have c_166 : ¬ (¬ (nI (fldN (tX f n E (by2 f (p + 4))))) = 0) := of_decide_eq_false c_166
                          have n_166 : fldN (tX f n E (by2 f (p + 4))) = 0 := (eq_nI (p := fldN (tX f n E (by2 f (p + 4)))) (n := 0) (Nat.lt_trans (le1_fld _) (by decide)) (by decide)).mp (Decidable.not_not.mp c_166)
                          refine ps_st (S' := (170, [(0, .ref m0), (1, .int (nI p))], [.ref m0], M1)) rfl rfl rfl ?_
                          refine ps_st (S' := (172, [(0, .ref m0), (1, .int (nI p))], [.int 21, .ref m0], M1)) rfl rfl rfl ?_
                          refine ps_st (S' := (173, [(0, .ref m0), (1, .int (nI p))], [.int (nI p), .int 21, .ref m0], M1)) rfl rfl rfl ?_
                          refine ps_st (S' := (174, [(0, .ref m0), (1, .int (nI p))], [.int 4, .int (nI p), .int 21, .ref m0], M1)) rfl rfl rfl ?_
                          refine ps_st (S' := (175, [(0, .ref m0), (1, .int (nI p))], [.int ((nI p) + 4), .int 21, .ref m0], M1)) rfl rfl rfl ?_
                          rw [nI_add1 (p := p) (k := 4) (x := 4) rfl (by omega)]
                          show pl _ _ _ (_, [(0, .ref m0), (1, .int (nI p))], [.int (nI (p + 4)), .int 21, .ref m0], M1) _
                          refine pl_call (a := [.ref m0, .int 21, .int (nI (p + 4))]) (rest := []) rfl rfl rfl (rd_wrong (x1 := 21) (x2 := (nI (p + 4))) hR1) (fun v451 M452 q453 => ?_)
                          obtain ⟨I454, R455, rfl, hR456, hI457, hX458, hi459, hi460⟩ := q453
                          have hi461 := (hI457 51 (by decide)).trans hl51
                          have hi462 := (hI457 52 (by decide)).trans hl52
                          have hi463 := (hI457 53 (by decide)).trans hl53
                          have hi464 := (hI457 58 (by decide)).trans hl58
                          have hi465 := (hI457 55 (by decide)).trans hl55
                          have hi466 := (hI457 25 (by decide)).trans hl25
                          have hF_467 := hF1.mono (cIx hI457 (by decide)) (cRx hX458 (by decide))
                          have hY_468 := hY1.mono (cIx hI457 (by decide)) (cRx hX458 (by decide))
                          have hP_469 := hP1.mono (cIx hI457 (by decide)) (cRx hX458 (by decide))
                          have hK_470 := hK1.mono (cIx hI457 (by decide)) (cRx hX458 (by decide))
                          have hN9_471 := hN91.mono (cIx hI457 (by decide)) (cRx hX458 (by decide))
                          have hEI472 := hEI1.tr hI457 (by decide)
                          have hER473 := hER1.tr hX458 (by decide)
                          show pl _ _ _ (178, [(0, .ref m0), (1, .int (nI p))], [.int 0], M452) _
                          exact ps_ret rfl rfl (Or.inr ⟨(21, p + 4), I454, R455, by
                              rw [← hs, flS_st (i := k) (by omega), ← hpk, fh_21 (by have e1 := ffl_0 cf (by2 f p); have e2 := sev_0 (by2 f p); have e3 := hall_80 (by2 f p); omega) (by omega) (by omega)], rfl, hR456, hEI472, hER473, hi459, hi460⟩)
                    · have c_123 : ¬ (¬ (nI (unqN (tX f n E (by2 f (p + 2))))) = 0) := of_decide_eq_false c_123
                      have n_123 : unqN (tX f n E (by2 f (p + 2))) = 0 := (eq_nI (p := unqN (tX f n E (by2 f (p + 2)))) (n := 0) (Nat.lt_trans (le1_unq _) (by decide)) (by decide)).mp (Decidable.not_not.mp c_123)
                      refine ps_st (S' := (127, [(0, .ref m0), (1, .int (nI p))], [.ref m0], M1)) rfl rfl rfl ?_
                      refine ps_st (S' := (129, [(0, .ref m0), (1, .int (nI p))], [.int 20, .ref m0], M1)) rfl rfl rfl ?_
                      refine ps_st (S' := (130, [(0, .ref m0), (1, .int (nI p))], [.int (nI p), .int 20, .ref m0], M1)) rfl rfl rfl ?_
                      refine ps_st (S' := (131, [(0, .ref m0), (1, .int (nI p))], [.int 2, .int (nI p), .int 20, .ref m0], M1)) rfl rfl rfl ?_
                      refine ps_st (S' := (132, [(0, .ref m0), (1, .int (nI p))], [.int ((nI p) + 2), .int 20, .ref m0], M1)) rfl rfl rfl ?_
                      rw [nI_add1 (p := p) (k := 2) (x := 2) rfl (by omega)]
                      show pl _ _ _ (_, [(0, .ref m0), (1, .int (nI p))], [.int (nI (p + 2)), .int 20, .ref m0], M1) _
                      refine pl_call (a := [.ref m0, .int 20, .int (nI (p + 2))]) (rest := []) rfl rfl rfl (rd_wrong (x1 := 20) (x2 := (nI (p + 2))) hR1) (fun v474 M475 q476 => ?_)
                      obtain ⟨I477, R478, rfl, hR479, hI480, hX481, hi482, hi483⟩ := q476
                      have hi484 := (hI480 51 (by decide)).trans hl51
                      have hi485 := (hI480 52 (by decide)).trans hl52
                      have hi486 := (hI480 53 (by decide)).trans hl53
                      have hi487 := (hI480 58 (by decide)).trans hl58
                      have hi488 := (hI480 55 (by decide)).trans hl55
                      have hi489 := (hI480 25 (by decide)).trans hl25
                      have hF_490 := hF1.mono (cIx hI480 (by decide)) (cRx hX481 (by decide))
                      have hY_491 := hY1.mono (cIx hI480 (by decide)) (cRx hX481 (by decide))
                      have hP_492 := hP1.mono (cIx hI480 (by decide)) (cRx hX481 (by decide))
                      have hK_493 := hK1.mono (cIx hI480 (by decide)) (cRx hX481 (by decide))
                      have hN9_494 := hN91.mono (cIx hI480 (by decide)) (cRx hX481 (by decide))
                      have hEI495 := hEI1.tr hI480 (by decide)
                      have hER496 := hER1.tr hX481 (by decide)
                      show pl _ _ _ (135, [(0, .ref m0), (1, .int (nI p))], [.int 0], M475) _
                      exact ps_ret rfl rfl (Or.inr ⟨(20, p + 2), I477, R478, by
                          rw [← hs, flS_st (i := k) (by omega), ← hpk, fh_20 (by have e1 := ffl_0 cf (by2 f p); have e2 := sev_0 (by2 f p); have e3 := hall_80 (by2 f p); omega) (by omega)], rfl, hR479, hEI495, hER496, hi482, hi483⟩)
                · have c_81 : ¬ ((nI (aN (by2 f p) 16607)) = 25) := of_decide_eq_false c_81
                  have n_81 : ¬ (aN (by2 f p) 16607 = 25) := fun h9 => c_81 ((eq_nI (p := aN (by2 f p) 16607) (n := 25) (Nat.lt_of_le_of_lt (an_le _ _) (by decide)) (by decide)).mpr h9)
                  refine ps_st (S' := (85, [(0, .ref m0), (1, .int (nI p))], [.ref m0], M1)) rfl rfl rfl ?_
                  refine ps_st (S' := (87, [(0, .ref m0), (1, .int (nI p))], [.int 19, .ref m0], M1)) rfl rfl rfl ?_
                  refine ps_st (S' := (88, [(0, .ref m0), (1, .int (nI p))], [.int (nI p), .int 19, .ref m0], M1)) rfl rfl rfl ?_
                  refine pl_call (a := [.ref m0, .int 19, .int (nI p)]) (rest := []) rfl rfl rfl (rd_wrong (x1 := 19) (x2 := (nI p)) hR1) (fun v497 M498 q499 => ?_)
                  obtain ⟨I500, R501, rfl, hR502, hI503, hX504, hi505, hi506⟩ := q499
                  have hi507 := (hI503 51 (by decide)).trans hl51
                  have hi508 := (hI503 52 (by decide)).trans hl52
                  have hi509 := (hI503 53 (by decide)).trans hl53
                  have hi510 := (hI503 58 (by decide)).trans hl58
                  have hi511 := (hI503 55 (by decide)).trans hl55
                  have hi512 := (hI503 25 (by decide)).trans hl25
                  have hF_513 := hF1.mono (cIx hI503 (by decide)) (cRx hX504 (by decide))
                  have hY_514 := hY1.mono (cIx hI503 (by decide)) (cRx hX504 (by decide))
                  have hP_515 := hP1.mono (cIx hI503 (by decide)) (cRx hX504 (by decide))
                  have hK_516 := hK1.mono (cIx hI503 (by decide)) (cRx hX504 (by decide))
                  have hN9_517 := hN91.mono (cIx hI503 (by decide)) (cRx hX504 (by decide))
                  have hEI518 := hEI1.tr hI503 (by decide)
                  have hER519 := hER1.tr hX504 (by decide)
                  show pl _ _ _ (91, [(0, .ref m0), (1, .int (nI p))], [.int 0], M498) _
                  exact ps_ret rfl rfl (Or.inr ⟨(19, p), I500, R501, by
                      rw [← hs, flS_st (i := k) (by omega), ← hpk, fh_19 (by have e1 := ffl_0 cf (by2 f p); have e2 := sev_0 (by2 f p); have e3 := hall_80 (by2 f p); omega)], rfl, hR502, hEI518, hER519, hi505, hi506⟩)
            · have c_51 : ¬ ((nI (aN (by2 f p) 16)) = 0) := of_decide_eq_false c_51
              have n_51 : ¬ (aN (by2 f p) 16 = 0) := fun h9 => c_51 ((eq_nI (p := aN (by2 f p) 16) (n := 0) (Nat.lt_of_le_of_lt (an_le _ _) (by decide)) (by decide)).mpr h9)
              refine ps_st (S' := (56, [(5, .int (nI (by2 f p))), (0, .ref m0), (1, .int (nI p)), (2, .int (nI (by2 f pF))), (3, .int (nI f0)), (4, .int (nI k))], [.int (nI (by2 f p))], M1)) rfl rfl rfl ?_
              refine ps_st (S' := (58, [(5, .int (nI (by2 f p))), (0, .ref m0), (1, .int (nI p)), (2, .int (nI (by2 f pF))), (3, .int (nI f0)), (4, .int (nI k))], [.int 64, .int (nI (by2 f p))], M1)) rfl rfl rfl ?_
              refine ps_st (S' := (59, [(5, .int (nI (by2 f p))), (0, .ref m0), (1, .int (nI p)), (2, .int (nI (by2 f pF))), (3, .int (nI f0)), (4, .int (nI k))], [.int ((nI (by2 f p)) &&& 64)], M1)) rfl rfl rfl ?_
              rw [nI_an (p := by2 f p) (k := 64) (x := 64) rfl]
              show pl _ _ _ (_, [(5, .int (nI (by2 f p))), (0, .ref m0), (1, .int (nI p)), (2, .int (nI (by2 f pF))), (3, .int (nI f0)), (4, .int (nI k))], [.int (nI (aN (by2 f p) 64))], M1) _
              refine ps_if (S1 := (84, [(0, .ref m0), (1, .int (nI p))], [], M1)) (S2 := (62, [(0, .ref m0), (1, .int (nI p)), (2, .int (nI (by2 f pF))), (3, .int (nI f0)), (4, .int (nI k)), (5, .int (nI (by2 f p)))], [], M1)) rfl rfl rfl (fun c_59 => ?_) (fun c_59 => ?_)
              · have c_59 : ¬ (nI (aN (by2 f p) 64)) = 0 := of_decide_eq_true c_59
                have n_59 : ¬ (aN (by2 f p) 64 = 0) := fun h9 => c_59 ((eq_nI (p := aN (by2 f p) 64) (n := 0) (Nat.lt_of_le_of_lt (an_le _ _) (by decide)) (by decide)).mpr h9)
                refine ps_st (S' := (85, [(0, .ref m0), (1, .int (nI p))], [.ref m0], M1)) rfl rfl rfl ?_
                refine ps_st (S' := (87, [(0, .ref m0), (1, .int (nI p))], [.int 19, .ref m0], M1)) rfl rfl rfl ?_
                refine ps_st (S' := (88, [(0, .ref m0), (1, .int (nI p))], [.int (nI p), .int 19, .ref m0], M1)) rfl rfl rfl ?_
                refine pl_call (a := [.ref m0, .int 19, .int (nI p)]) (rest := []) rfl rfl rfl (rd_wrong (x1 := 19) (x2 := (nI p)) hR1) (fun v520 M521 q522 => ?_)
                obtain ⟨I523, R524, rfl, hR525, hI526, hX527, hi528, hi529⟩ := q522
                have hi530 := (hI526 51 (by decide)).trans hl51
                have hi531 := (hI526 52 (by decide)).trans hl52
                have hi532 := (hI526 53 (by decide)).trans hl53
                have hi533 := (hI526 58 (by decide)).trans hl58
                have hi534 := (hI526 55 (by decide)).trans hl55
                have hi535 := (hI526 25 (by decide)).trans hl25
                have hF_536 := hF1.mono (cIx hI526 (by decide)) (cRx hX527 (by decide))
                have hY_537 := hY1.mono (cIx hI526 (by decide)) (cRx hX527 (by decide))
                have hP_538 := hP1.mono (cIx hI526 (by decide)) (cRx hX527 (by decide))
                have hK_539 := hK1.mono (cIx hI526 (by decide)) (cRx hX527 (by decide))
                have hN9_540 := hN91.mono (cIx hI526 (by decide)) (cRx hX527 (by decide))
                have hEI541 := hEI1.tr hI526 (by decide)
                have hER542 := hER1.tr hX527 (by decide)
                show pl _ _ _ (91, [(0, .ref m0), (1, .int (nI p))], [.int 0], M521) _
                exact ps_ret rfl rfl (Or.inr ⟨(19, p), I523, R524, by
                    rw [← hs, flS_st (i := k) (by omega), ← hpk, fh_19 (by have e1 := ffl_0 cf (by2 f p); have e2 := sev_0 (by2 f p); have e3 := hall_80 (by2 f p); omega)], rfl, hR525, hEI541, hER542, hi528, hi529⟩)
              · have c_59 : ¬ (¬ (nI (aN (by2 f p) 64)) = 0) := of_decide_eq_false c_59
                have n_59 : aN (by2 f p) 64 = 0 := (eq_nI (p := aN (by2 f p) 64) (n := 0) (Nat.lt_of_le_of_lt (an_le _ _) (by decide)) (by decide)).mp (Decidable.not_not.mp c_59)
                refine ps_st (S' := (63, [(0, .ref m0), (1, .int (nI p)), (2, .int (nI (by2 f pF))), (3, .int (nI f0)), (4, .int (nI k)), (5, .int (nI (by2 f p)))], [.ref m0], M1)) rfl rfl rfl ?_
                refine pr_int (j := 58) (S' := (66, [(0, .ref m0), (1, .int (nI p)), (2, .int (nI (by2 f pF))), (3, .int (nI f0)), (4, .int (nI k)), (5, .int (nI (by2 f p)))], [.int (nI cf)], M1)) rfl hR1 rfl hl58 rfl ?_
                refine ps_st (S' := (69, [(0, .ref m0), (1, .int (nI p)), (2, .int (nI (by2 f pF))), (3, .int (nI f0)), (4, .int (nI k)), (5, .int (nI (by2 f p)))], [.int 512, .int (nI cf)], M1)) rfl rfl rfl ?_
                refine ps_st (S' := (70, [(0, .ref m0), (1, .int (nI p)), (2, .int (nI (by2 f pF))), (3, .int (nI f0)), (4, .int (nI k)), (5, .int (nI (by2 f p)))], [.int ((nI cf) &&& 512)], M1)) rfl rfl rfl ?_
                rw [nI_an (p := cf) (k := 512) (x := 512) rfl]
                show pl _ _ _ (_, [(0, .ref m0), (1, .int (nI p)), (2, .int (nI (by2 f pF))), (3, .int (nI f0)), (4, .int (nI k)), (5, .int (nI (by2 f p)))], [.int (nI (aN cf 512))], M1) _
                refine ps_if (S1 := (92, [(0, .ref m0), (1, .int (nI p)), (2, .int (nI (by2 f pF))), (3, .int (nI f0)), (4, .int (nI k)), (5, .int (nI (by2 f p)))], [], M1)) (S2 := (73, [(0, .ref m0), (1, .int (nI p)), (2, .int (nI (by2 f pF))), (3, .int (nI f0)), (4, .int (nI k)), (5, .int (nI (by2 f p)))], [], M1)) rfl rfl rfl (fun c_70 => ?_) (fun c_70 => ?_)
                · have c_70 : (nI (aN cf 512)) = 0 := of_decide_eq_true c_70
                  have n_70 : aN cf 512 = 0 := (eq_nI (p := aN cf 512) (n := 0) (Nat.lt_of_le_of_lt (an_le _ _) (by decide)) (by decide)).mp c_70
                  refine ps_st (S' := (93, [(0, .ref m0), (1, .int (nI p)), (2, .int (nI (by2 f pF))), (3, .int (nI f0)), (4, .int (nI k)), (5, .int (nI (by2 f p)))], [.ref m0], M1)) rfl rfl rfl ?_
                  refine ps_st (S' := (94, [(0, .ref m0), (1, .int (nI p)), (2, .int (nI (by2 f pF))), (3, .int (nI f0)), (4, .int (nI k)), (5, .int (nI (by2 f p)))], [.ref m0, .ref m0], M1)) rfl rfl rfl ?_
                  refine ps_st (S' := (95, [(0, .ref m0), (1, .int (nI p)), (2, .int (nI (by2 f pF))), (3, .int (nI f0)), (4, .int (nI k)), (5, .int (nI (by2 f p)))], [.int (nI p), .ref m0, .ref m0], M1)) rfl rfl rfl ?_
                  refine ps_st (S' := (96, [(0, .ref m0), (1, .int (nI p)), (2, .int (nI (by2 f pF))), (3, .int (nI f0)), (4, .int (nI k)), (5, .int (nI (by2 f p)))], [.int 2, .int (nI p), .ref m0, .ref m0], M1)) rfl rfl rfl ?_
                  refine ps_st (S' := (97, [(0, .ref m0), (1, .int (nI p)), (2, .int (nI (by2 f pF))), (3, .int (nI f0)), (4, .int (nI k)), (5, .int (nI (by2 f p)))], [.int ((nI p) + 2), .ref m0, .ref m0], M1)) rfl rfl rfl ?_
                  rw [nI_add1 (p := p) (k := 2) (x := 2) rfl (by omega)]
                  show pl _ _ _ (_, [(0, .ref m0), (1, .int (nI p)), (2, .int (nI (by2 f pF))), (3, .int (nI f0)), (4, .int (nI k)), (5, .int (nI (by2 f p)))], [.int (nI (p + 2)), .ref m0, .ref m0], M1) _
                  refine pl_call (a := [.ref m0, .int (nI (p + 2))]) (rest := [.ref m0]) rfl rfl rfl (rd_u2 (n := n) (f := f) (p := (p + 2)) hR1 hF1 (by omega)) (fun v543 M544 q545 => ?_)
                  obtain ⟨rfl, rfl⟩ := q545
                  show pl _ _ _ (100, [(0, .ref m0), (1, .int (nI p)), (2, .int (nI (by2 f pF))), (3, .int (nI f0)), (4, .int (nI k)), (5, .int (nI (by2 f p)))], [.int (nI (by2 f (p + 2))), .ref m0], M1) _
                  have hu_97 := by2_lt f (p + 2)
                  refine pl_call (a := [.ref m0, .int (nI (by2 f (p + 2)))]) (rest := []) rfl rfl rfl (rd_tag (n := n) (f := f) (tx := tx) (cN := cN) (A := A) (N := N) (mj := mj) (E := E) (k := (by2 f (p + 2))) hR1 hl51 hl52 hl53 hF1 hY1 hP1 (hEP) (hN) (hmj) (by2_lt _ _)) (fun v546 M547 q548 => ?_)
                  obtain ⟨rfl, rfl⟩ := q548
                  show pl _ _ _ (103, [(0, .ref m0), (1, .int (nI p)), (2, .int (nI (by2 f pF))), (3, .int (nI f0)), (4, .int (nI k)), (5, .int (nI (by2 f p)))], [.int (nI (tg f E (by2 f (p + 2))))], M1) _
                  have htg_100 := tg_lt f E (by2 f (p + 2))
                  refine ps_st (S' := (104, [(0, .ref m0), (1, .int (nI p)), (2, .int (nI (by2 f pF))), (3, .int (nI f0)), (4, .int (nI k)), (5, .int (nI (by2 f p)))], [.int 1, .int (nI (tg f E (by2 f (p + 2))))], M1)) rfl rfl rfl ?_
                  refine ps_if2 (S1 := (126, [(0, .ref m0), (1, .int (nI p))], [], M1)) (S2 := (107, [(0, .ref m0), (1, .int (nI p)), (2, .int (nI (by2 f pF))), (3, .int (nI f0)), (4, .int (nI k)), (5, .int (nI (by2 f p)))], [], M1)) rfl rfl rfl (fun c_104 => ?_) (fun c_104 => ?_)
                  · have c_104 : ¬ (nI (tg f E (by2 f (p + 2)))) = 1 := of_decide_eq_true c_104
                    have n_104 : ¬ (tg f E (by2 f (p + 2)) = 1) := fun h9 => c_104 ((eq_nI (p := tg f E (by2 f (p + 2))) (n := 1) (Nat.lt_trans (tg_lt _ _ _) (by decide)) (by decide)).mpr h9)
                    refine ps_st (S' := (127, [(0, .ref m0), (1, .int (nI p))], [.ref m0], M1)) rfl rfl rfl ?_
                    refine ps_st (S' := (129, [(0, .ref m0), (1, .int (nI p))], [.int 20, .ref m0], M1)) rfl rfl rfl ?_
                    refine ps_st (S' := (130, [(0, .ref m0), (1, .int (nI p))], [.int (nI p), .int 20, .ref m0], M1)) rfl rfl rfl ?_
                    refine ps_st (S' := (131, [(0, .ref m0), (1, .int (nI p))], [.int 2, .int (nI p), .int 20, .ref m0], M1)) rfl rfl rfl ?_
                    refine ps_st (S' := (132, [(0, .ref m0), (1, .int (nI p))], [.int ((nI p) + 2), .int 20, .ref m0], M1)) rfl rfl rfl ?_
                    rw [nI_add1 (p := p) (k := 2) (x := 2) rfl (by omega)]
                    show pl _ _ _ (_, [(0, .ref m0), (1, .int (nI p))], [.int (nI (p + 2)), .int 20, .ref m0], M1) _
                    refine pl_call (a := [.ref m0, .int 20, .int (nI (p + 2))]) (rest := []) rfl rfl rfl (rd_wrong (x1 := 20) (x2 := (nI (p + 2))) hR1) (fun v549 M550 q551 => ?_)
                    obtain ⟨I552, R553, rfl, hR554, hI555, hX556, hi557, hi558⟩ := q551
                    have hi559 := (hI555 51 (by decide)).trans hl51
                    have hi560 := (hI555 52 (by decide)).trans hl52
                    have hi561 := (hI555 53 (by decide)).trans hl53
                    have hi562 := (hI555 58 (by decide)).trans hl58
                    have hi563 := (hI555 55 (by decide)).trans hl55
                    have hi564 := (hI555 25 (by decide)).trans hl25
                    have hF_565 := hF1.mono (cIx hI555 (by decide)) (cRx hX556 (by decide))
                    have hY_566 := hY1.mono (cIx hI555 (by decide)) (cRx hX556 (by decide))
                    have hP_567 := hP1.mono (cIx hI555 (by decide)) (cRx hX556 (by decide))
                    have hK_568 := hK1.mono (cIx hI555 (by decide)) (cRx hX556 (by decide))
                    have hN9_569 := hN91.mono (cIx hI555 (by decide)) (cRx hX556 (by decide))
                    have hEI570 := hEI1.tr hI555 (by decide)
                    have hER571 := hER1.tr hX556 (by decide)
                    show pl _ _ _ (135, [(0, .ref m0), (1, .int (nI p))], [.int 0], M550) _
                    exact ps_ret rfl rfl (Or.inr ⟨(20, p + 2), I552, R553, by
                        rw [← hs, flS_st (i := k) (by omega), ← hpk, fh_20 (by have e1 := ffl_0 cf (by2 f p); have e2 := sev_0 (by2 f p); have e3 := hall_80 (by2 f p); omega) (by rw [tx_no (by omega)]; decide)], rfl, hR554, hEI570, hER571, hi557, hi558⟩)
                  · have c_104 : ¬ (¬ (nI (tg f E (by2 f (p + 2)))) = 1) := of_decide_eq_false c_104
                    have n_104 : tg f E (by2 f (p + 2)) = 1 := (eq_nI (p := tg f E (by2 f (p + 2))) (n := 1) (Nat.lt_trans (tg_lt _ _ _) (by decide)) (by decide)).mp (Decidable.not_not.mp c_104)
                    refine ps_st (S' := (108, [(0, .ref m0), (1, .int (nI p)), (2, .int (nI (by2 f pF))), (3, .int (nI f0)), (4, .int (nI k)), (5, .int (nI (by2 f p)))], [.ref m0], M1)) rfl rfl rfl ?_
                    refine ps_st (S' := (109, [(0, .ref m0), (1, .int (nI p)), (2, .int (nI (by2 f pF))), (3, .int (nI f0)), (4, .int (nI k)), (5, .int (nI (by2 f p)))], [.ref m0, .ref m0], M1)) rfl rfl rfl ?_
                    refine ps_st (S' := (110, [(0, .ref m0), (1, .int (nI p)), (2, .int (nI (by2 f pF))), (3, .int (nI f0)), (4, .int (nI k)), (5, .int (nI (by2 f p)))], [.ref m0, .ref m0, .ref m0], M1)) rfl rfl rfl ?_
                    refine ps_st (S' := (111, [(0, .ref m0), (1, .int (nI p)), (2, .int (nI (by2 f pF))), (3, .int (nI f0)), (4, .int (nI k)), (5, .int (nI (by2 f p)))], [.int (nI p), .ref m0, .ref m0, .ref m0], M1)) rfl rfl rfl ?_
                    refine ps_st (S' := (112, [(0, .ref m0), (1, .int (nI p)), (2, .int (nI (by2 f pF))), (3, .int (nI f0)), (4, .int (nI k)), (5, .int (nI (by2 f p)))], [.int 2, .int (nI p), .ref m0, .ref m0, .ref m0], M1)) rfl rfl rfl ?_
                    refine ps_st (S' := (113, [(0, .ref m0), (1, .int (nI p)), (2, .int (nI (by2 f pF))), (3, .int (nI f0)), (4, .int (nI k)), (5, .int (nI (by2 f p)))], [.int ((nI p) + 2), .ref m0, .ref m0, .ref m0], M1)) rfl rfl rfl ?_
                    rw [nI_add1 (p := p) (k := 2) (x := 2) rfl (by omega)]
                    show pl _ _ _ (_, [(0, .ref m0), (1, .int (nI p)), (2, .int (nI (by2 f pF))), (3, .int (nI f0)), (4, .int (nI k)), (5, .int (nI (by2 f p)))], [.int (nI (p + 2)), .ref m0, .ref m0, .ref m0], M1) _
                    refine pl_call (a := [.ref m0, .int (nI (p + 2))]) (rest := [.ref m0, .ref m0]) rfl rfl rfl (rd_u2 (n := n) (f := f) (p := (p + 2)) hR1 hF1 (by omega)) (fun v572 M573 q574 => ?_)
                    obtain ⟨rfl, rfl⟩ := q574
                    show pl _ _ _ (116, [(0, .ref m0), (1, .int (nI p)), (2, .int (nI (by2 f pF))), (3, .int (nI f0)), (4, .int (nI k)), (5, .int (nI (by2 f p)))], [.int (nI (by2 f (p + 2))), .ref m0, .ref m0], M1) _
                    have hu_113 := by2_lt f (p + 2)
                    refine pl_call (a := [.ref m0, .int (nI (by2 f (p + 2)))]) (rest := [.ref m0]) rfl rfl rfl (rd_symOf (n := n) (f := f) (tx := tx) (cN := cN) (A := A) (N := N) (mj := mj) (E := E) (k := (by2 f (p + 2))) hR1 hl51 hl52 hl53 hF1 hY1 hP1 (hEP) (hN) (hmj) (by omega)) (fun v575 M576 q577 => ?_)
                    obtain ⟨s578, q116_s, rfl, rfl⟩ := q577
                    show pl _ _ _ (119, [(0, .ref m0), (1, .int (nI p)), (2, .int (nI (by2 f pF))), (3, .int (nI f0)), (4, .int (nI k)), (5, .int (nI (by2 f p)))], [.int (nI s578), .ref m0], M1) _
                    have hsl_116 := q116_s.1
                    have htl_116 := hY1.1.2.2.1
                    refine ps_st (S' := (120, [(0, .ref m0), (1, .int (nI p)), (2, .int (nI (by2 f pF))), (3, .int (nI f0)), (4, .int (nI k)), (5, .int (nI (by2 f p)))], [.int 1, .int (nI s578), .ref m0], M1)) rfl rfl rfl ?_
                    refine pl_call (a := [.ref m0, .int (nI s578), .int 1]) (rest := []) rfl rfl rfl (rd_unq1 (tx := tx) (cN := cN) (A := A) (s := s578) (l := (tX f n E (by2 f (p + 2)))) hR1 hY1 (q116_s)) (fun v579 M580 q581 => ?_)
                    obtain ⟨rfl, rfl⟩ := q581
                    show pl _ _ _ (123, [(0, .ref m0), (1, .int (nI p)), (2, .int (nI (by2 f pF))), (3, .int (nI f0)), (4, .int (nI k)), (5, .int (nI (by2 f p)))], [.int (nI (unqN (tX f n E (by2 f (p + 2)))))], M1) _
                    refine ps_if (S1 := (136, [(0, .ref m0), (1, .int (nI p)), (2, .int (nI (by2 f pF))), (3, .int (nI f0)), (4, .int (nI k)), (5, .int (nI (by2 f p)))], [], M1)) (S2 := (126, [(0, .ref m0), (1, .int (nI p))], [], M1)) rfl rfl rfl (fun c_123 => ?_) (fun c_123 => ?_)
                    · have c_123 : ¬ (nI (unqN (tX f n E (by2 f (p + 2))))) = 0 := of_decide_eq_true c_123
                      have n_123 : ¬ (unqN (tX f n E (by2 f (p + 2))) = 0) := fun h9 => c_123 ((eq_nI (p := unqN (tX f n E (by2 f (p + 2)))) (n := 0) (Nat.lt_trans (le1_unq _) (by decide)) (by decide)).mpr h9)
                      refine ps_st (S' := (137, [(0, .ref m0), (1, .int (nI p)), (2, .int (nI (by2 f pF))), (3, .int (nI f0)), (4, .int (nI k)), (5, .int (nI (by2 f p)))], [.ref m0], M1)) rfl rfl rfl ?_
                      refine ps_st (S' := (138, [(0, .ref m0), (1, .int (nI p)), (2, .int (nI (by2 f pF))), (3, .int (nI f0)), (4, .int (nI k)), (5, .int (nI (by2 f p)))], [.ref m0, .ref m0], M1)) rfl rfl rfl ?_
                      refine ps_st (S' := (139, [(0, .ref m0), (1, .int (nI p)), (2, .int (nI (by2 f pF))), (3, .int (nI f0)), (4, .int (nI k)), (5, .int (nI (by2 f p)))], [.int (nI p), .ref m0, .ref m0], M1)) rfl rfl rfl ?_
                      refine ps_st (S' := (140, [(0, .ref m0), (1, .int (nI p)), (2, .int (nI (by2 f pF))), (3, .int (nI f0)), (4, .int (nI k)), (5, .int (nI (by2 f p)))], [.int 4, .int (nI p), .ref m0, .ref m0], M1)) rfl rfl rfl ?_
                      refine ps_st (S' := (141, [(0, .ref m0), (1, .int (nI p)), (2, .int (nI (by2 f pF))), (3, .int (nI f0)), (4, .int (nI k)), (5, .int (nI (by2 f p)))], [.int ((nI p) + 4), .ref m0, .ref m0], M1)) rfl rfl rfl ?_
                      rw [nI_add1 (p := p) (k := 4) (x := 4) rfl (by omega)]
                      show pl _ _ _ (_, [(0, .ref m0), (1, .int (nI p)), (2, .int (nI (by2 f pF))), (3, .int (nI f0)), (4, .int (nI k)), (5, .int (nI (by2 f p)))], [.int (nI (p + 4)), .ref m0, .ref m0], M1) _
                      refine pl_call (a := [.ref m0, .int (nI (p + 4))]) (rest := [.ref m0]) rfl rfl rfl (rd_u2 (n := n) (f := f) (p := (p + 4)) hR1 hF1 (by omega)) (fun v582 M583 q584 => ?_)
                      obtain ⟨rfl, rfl⟩ := q584
                      show pl _ _ _ (144, [(0, .ref m0), (1, .int (nI p)), (2, .int (nI (by2 f pF))), (3, .int (nI f0)), (4, .int (nI k)), (5, .int (nI (by2 f p)))], [.int (nI (by2 f (p + 4))), .ref m0], M1) _
                      have hu_141 := by2_lt f (p + 4)
                      refine pl_call (a := [.ref m0, .int (nI (by2 f (p + 4)))]) (rest := []) rfl rfl rfl (rd_tag (n := n) (f := f) (tx := tx) (cN := cN) (A := A) (N := N) (mj := mj) (E := E) (k := (by2 f (p + 4))) hR1 hl51 hl52 hl53 hF1 hY1 hP1 (hEP) (hN) (hmj) (by2_lt _ _)) (fun v585 M586 q587 => ?_)
                      obtain ⟨rfl, rfl⟩ := q587
                      show pl _ _ _ (147, [(0, .ref m0), (1, .int (nI p)), (2, .int (nI (by2 f pF))), (3, .int (nI f0)), (4, .int (nI k)), (5, .int (nI (by2 f p)))], [.int (nI (tg f E (by2 f (p + 4))))], M1) _
                      have htg_144 := tg_lt f E (by2 f (p + 4))
                      refine ps_st (S' := (148, [(0, .ref m0), (1, .int (nI p)), (2, .int (nI (by2 f pF))), (3, .int (nI f0)), (4, .int (nI k)), (5, .int (nI (by2 f p)))], [.int 1, .int (nI (tg f E (by2 f (p + 4))))], M1)) rfl rfl rfl ?_
                      refine ps_if2 (S1 := (169, [(0, .ref m0), (1, .int (nI p))], [], M1)) (S2 := (151, [(0, .ref m0), (1, .int (nI p)), (2, .int (nI (by2 f pF))), (3, .int (nI f0)), (4, .int (nI k)), (5, .int (nI (by2 f p)))], [], M1)) rfl rfl rfl (fun c_148 => ?_) (fun c_148 => ?_)
                      · have c_148 : ¬ (nI (tg f E (by2 f (p + 4)))) = 1 := of_decide_eq_true c_148
                        have n_148 : ¬ (tg f E (by2 f (p + 4)) = 1) := fun h9 => c_148 ((eq_nI (p := tg f E (by2 f (p + 4))) (n := 1) (Nat.lt_trans (tg_lt _ _ _) (by decide)) (by decide)).mpr h9)
                        refine ps_st (S' := (170, [(0, .ref m0), (1, .int (nI p))], [.ref m0], M1)) rfl rfl rfl ?_
                        refine ps_st (S' := (172, [(0, .ref m0), (1, .int (nI p))], [.int 21, .ref m0], M1)) rfl rfl rfl ?_
                        refine ps_st (S' := (173, [(0, .ref m0), (1, .int (nI p))], [.int (nI p), .int 21, .ref m0], M1)) rfl rfl rfl ?_
                        refine ps_st (S' := (174, [(0, .ref m0), (1, .int (nI p))], [.int 4, .int (nI p), .int 21, .ref m0], M1)) rfl rfl rfl ?_
                        refine ps_st (S' := (175, [(0, .ref m0), (1, .int (nI p))], [.int ((nI p) + 4), .int 21, .ref m0], M1)) rfl rfl rfl ?_
                        rw [nI_add1 (p := p) (k := 4) (x := 4) rfl (by omega)]
                        show pl _ _ _ (_, [(0, .ref m0), (1, .int (nI p))], [.int (nI (p + 4)), .int 21, .ref m0], M1) _
                        refine pl_call (a := [.ref m0, .int 21, .int (nI (p + 4))]) (rest := []) rfl rfl rfl (rd_wrong (x1 := 21) (x2 := (nI (p + 4))) hR1) (fun v588 M589 q590 => ?_)
                        obtain ⟨I591, R592, rfl, hR593, hI594, hX595, hi596, hi597⟩ := q590
                        have hi598 := (hI594 51 (by decide)).trans hl51
                        have hi599 := (hI594 52 (by decide)).trans hl52
                        have hi600 := (hI594 53 (by decide)).trans hl53
                        have hi601 := (hI594 58 (by decide)).trans hl58
                        have hi602 := (hI594 55 (by decide)).trans hl55
                        have hi603 := (hI594 25 (by decide)).trans hl25
                        have hF_604 := hF1.mono (cIx hI594 (by decide)) (cRx hX595 (by decide))
                        have hY_605 := hY1.mono (cIx hI594 (by decide)) (cRx hX595 (by decide))
                        have hP_606 := hP1.mono (cIx hI594 (by decide)) (cRx hX595 (by decide))
                        have hK_607 := hK1.mono (cIx hI594 (by decide)) (cRx hX595 (by decide))
                        have hN9_608 := hN91.mono (cIx hI594 (by decide)) (cRx hX595 (by decide))
                        have hEI609 := hEI1.tr hI594 (by decide)
                        have hER610 := hER1.tr hX595 (by decide)
                        show pl _ _ _ (178, [(0, .ref m0), (1, .int (nI p))], [.int 0], M589) _
                        exact ps_ret rfl rfl (Or.inr ⟨(21, p + 4), I591, R592, by
                            rw [← hs, flS_st (i := k) (by omega), ← hpk, fh_21 (by have e1 := ffl_0 cf (by2 f p); have e2 := sev_0 (by2 f p); have e3 := hall_80 (by2 f p); omega) (by omega) (by rw [tx_no (by omega)]; decide)], rfl, hR593, hEI609, hER610, hi596, hi597⟩)
                      · have c_148 : ¬ (¬ (nI (tg f E (by2 f (p + 4)))) = 1) := of_decide_eq_false c_148
                        have n_148 : tg f E (by2 f (p + 4)) = 1 := (eq_nI (p := tg f E (by2 f (p + 4))) (n := 1) (Nat.lt_trans (tg_lt _ _ _) (by decide)) (by decide)).mp (Decidable.not_not.mp c_148)
                        refine ps_st (S' := (152, [(0, .ref m0), (1, .int (nI p)), (2, .int (nI (by2 f pF))), (3, .int (nI f0)), (4, .int (nI k)), (5, .int (nI (by2 f p)))], [.ref m0], M1)) rfl rfl rfl ?_
                        refine ps_st (S' := (153, [(0, .ref m0), (1, .int (nI p)), (2, .int (nI (by2 f pF))), (3, .int (nI f0)), (4, .int (nI k)), (5, .int (nI (by2 f p)))], [.ref m0, .ref m0], M1)) rfl rfl rfl ?_
                        refine ps_st (S' := (154, [(0, .ref m0), (1, .int (nI p)), (2, .int (nI (by2 f pF))), (3, .int (nI f0)), (4, .int (nI k)), (5, .int (nI (by2 f p)))], [.ref m0, .ref m0, .ref m0], M1)) rfl rfl rfl ?_
                        refine ps_st (S' := (155, [(0, .ref m0), (1, .int (nI p)), (2, .int (nI (by2 f pF))), (3, .int (nI f0)), (4, .int (nI k)), (5, .int (nI (by2 f p)))], [.int (nI p), .ref m0, .ref m0, .ref m0], M1)) rfl rfl rfl ?_
                        refine ps_st (S' := (156, [(0, .ref m0), (1, .int (nI p)), (2, .int (nI (by2 f pF))), (3, .int (nI f0)), (4, .int (nI k)), (5, .int (nI (by2 f p)))], [.int 4, .int (nI p), .ref m0, .ref m0, .ref m0], M1)) rfl rfl rfl ?_
                        refine ps_st (S' := (157, [(0, .ref m0), (1, .int (nI p)), (2, .int (nI (by2 f pF))), (3, .int (nI f0)), (4, .int (nI k)), (5, .int (nI (by2 f p)))], [.int ((nI p) + 4), .ref m0, .ref m0, .ref m0], M1)) rfl rfl rfl ?_
                        rw [nI_add1 (p := p) (k := 4) (x := 4) rfl (by omega)]
                        show pl _ _ _ (_, [(0, .ref m0), (1, .int (nI p)), (2, .int (nI (by2 f pF))), (3, .int (nI f0)), (4, .int (nI k)), (5, .int (nI (by2 f p)))], [.int (nI (p + 4)), .ref m0, .ref m0, .ref m0], M1) _
                        refine pl_call (a := [.ref m0, .int (nI (p + 4))]) (rest := [.ref m0, .ref m0]) rfl rfl rfl (rd_u2 (n := n) (f := f) (p := (p + 4)) hR1 hF1 (by omega)) (fun v611 M612 q613 => ?_)
                        obtain ⟨rfl, rfl⟩ := q613
                        show pl _ _ _ (160, [(0, .ref m0), (1, .int (nI p)), (2, .int (nI (by2 f pF))), (3, .int (nI f0)), (4, .int (nI k)), (5, .int (nI (by2 f p)))], [.int (nI (by2 f (p + 4))), .ref m0, .ref m0], M1) _
                        have hu_157 := by2_lt f (p + 4)
                        refine pl_call (a := [.ref m0, .int (nI (by2 f (p + 4)))]) (rest := [.ref m0]) rfl rfl rfl (rd_symOf (n := n) (f := f) (tx := tx) (cN := cN) (A := A) (N := N) (mj := mj) (E := E) (k := (by2 f (p + 4))) hR1 hl51 hl52 hl53 hF1 hY1 hP1 (hEP) (hN) (hmj) (by omega)) (fun v614 M615 q616 => ?_)
                        obtain ⟨s617, q160_s, rfl, rfl⟩ := q616
                        show pl _ _ _ (163, [(0, .ref m0), (1, .int (nI p)), (2, .int (nI (by2 f pF))), (3, .int (nI f0)), (4, .int (nI k)), (5, .int (nI (by2 f p)))], [.int (nI s617), .ref m0], M1) _
                        have hsl_160 := q160_s.1
                        have htl_160 := hY1.1.2.2.1
                        refine pl_call (a := [.ref m0, .int (nI s617)]) (rest := []) rfl rfl rfl (rd_isField (tx := tx) (cN := cN) (A := A) (s := s617) (l := (tX f n E (by2 f (p + 4)))) hR1 hY1 (q160_s)) (fun v618 M619 q620 => ?_)
                        obtain ⟨rfl, rfl⟩ := q620
                        show pl _ _ _ (166, [(0, .ref m0), (1, .int (nI p)), (2, .int (nI (by2 f pF))), (3, .int (nI f0)), (4, .int (nI k)), (5, .int (nI (by2 f p)))], [.int (nI (fldN (tX f n E (by2 f (p + 4)))))], M1) _
                        refine ps_if (S1 := (179, [(0, .ref m0), (1, .int (nI p)), (2, .int (nI (by2 f pF))), (3, .int (nI f0)), (4, .int (nI k)), (5, .int (nI (by2 f p)))], [], M1)) (S2 := (169, [(0, .ref m0), (1, .int (nI p))], [], M1)) rfl rfl rfl (fun c_166 => ?_) (fun c_166 => ?_)
                        · have c_166 : ¬ (nI (fldN (tX f n E (by2 f (p + 4))))) = 0 := of_decide_eq_true c_166
                          have n_166 : ¬ (fldN (tX f n E (by2 f (p + 4))) = 0) := fun h9 => c_166 ((eq_nI (p := fldN (tX f n E (by2 f (p + 4)))) (n := 0) (Nat.lt_trans (le1_fld _) (by decide)) (by decide)).mpr h9)
                          refine ps_st (S' := (180, [(0, .ref m0), (1, .int (nI p)), (2, .int (nI (by2 f pF))), (3, .int (nI f0)), (4, .int (nI k)), (5, .int (nI (by2 f p)))], [.ref m0], M1)) rfl rfl rfl ?_
                          refine pr_int (j := 25) (S' := (183, [(0, .ref m0), (1, .int (nI p)), (2, .int (nI (by2 f pF))), (3, .int (nI f0)), (4, .int (nI k)), (5, .int (nI (by2 f p)))], [.int (nI (f0 + k))], M1)) rfl hR1 rfl hl25 rfl ?_
                          refine ps_st (S' := (185, [(6, .int (nI (f0 + k))), (0, .ref m0), (1, .int (nI p)), (2, .int (nI (by2 f pF))), (3, .int (nI f0)), (4, .int (nI k)), (5, .int (nI (by2 f p)))], [], M1)) rfl rfl rfl ?_
                          refine ps_st (S' := (186, [(6, .int (nI (f0 + k))), (0, .ref m0), (1, .int (nI p)), (2, .int (nI (by2 f pF))), (3, .int (nI f0)), (4, .int (nI k)), (5, .int (nI (by2 f p)))], [.ref m0], M1)) rfl rfl rfl ?_
                          refine pr_ref (j := 27) (S' := (189, [(6, .int (nI (f0 + k))), (0, .ref m0), (1, .int (nI p)), (2, .int (nI (by2 f pF))), (3, .int (nI f0)), (4, .int (nI k)), (5, .int (nI (by2 f p)))], [.ref (q 27)], M1)) rfl hR1 rfl rfl ?_
                          refine ps_st (S' := (191, [(6, .int (nI (f0 + k))), (0, .ref m0), (1, .int (nI p)), (2, .int (nI (by2 f pF))), (3, .int (nI f0)), (4, .int (nI k)), (5, .int (nI (by2 f p)))], [.int (nI (f0 + k)), .ref (q 27)], M1)) rfl rfl rfl ?_
                          refine ps_st (S' := (193, [(6, .int (nI (f0 + k))), (0, .ref m0), (1, .int (nI p)), (2, .int (nI (by2 f pF))), (3, .int (nI f0)), (4, .int (nI k)), (5, .int (nI (by2 f p)))], [.int (nI (by2 f p)), .int (nI (f0 + k)), .ref (q 27)], M1)) rfl rfl rfl ?_
                          refine pr_st (a := 27) (j := f0 + k) rfl hR1 rfl (by omega) (fun M621 R622 i1_193 hR623 hS624 => ?_)
                          have hF_625 := hF1.mono (fun _ _ => rfl) (rRx hS624 (by decide))
                          have hY_626 := hY1.mono (fun _ _ => rfl) (rRx hS624 (by decide))
                          have hP_627 := hP1.mono (fun _ _ => rfl) (rRx hS624 (by decide))
                          have hK_628 := hK1.mono (fun _ _ => rfl) (rRx hS624 (by decide))
                          have hN9_629 := hN91.mono (fun _ _ => rfl) (rRx hS624 (by decide))
                          have hER630 := hER1.st hS624 (by decide)
                          show pl _ _ _ (194, [(6, .int (nI (f0 + k))), (0, .ref m0), (1, .int (nI p)), (2, .int (nI (by2 f pF))), (3, .int (nI f0)), (4, .int (nI k)), (5, .int (nI (by2 f p)))], [], M621) _
                          have c27_631 : CE 27 (f0 + k) (nI (by2 f p)) I1 R622 := CE.st hS624
                          refine ps_st (S' := (195, [(6, .int (nI (f0 + k))), (0, .ref m0), (1, .int (nI p)), (2, .int (nI (by2 f pF))), (3, .int (nI f0)), (4, .int (nI k)), (5, .int (nI (by2 f p)))], [.ref m0], M621)) rfl rfl rfl ?_
                          refine pr_ref (j := 28) (S' := (198, [(6, .int (nI (f0 + k))), (0, .ref m0), (1, .int (nI p)), (2, .int (nI (by2 f pF))), (3, .int (nI f0)), (4, .int (nI k)), (5, .int (nI (by2 f p)))], [.ref (q 28)], M621)) rfl hR623 rfl rfl ?_
                          refine ps_st (S' := (200, [(6, .int (nI (f0 + k))), (0, .ref m0), (1, .int (nI p)), (2, .int (nI (by2 f pF))), (3, .int (nI f0)), (4, .int (nI k)), (5, .int (nI (by2 f p)))], [.int (nI (f0 + k)), .ref (q 28)], M621)) rfl rfl rfl ?_
                          refine ps_st (S' := (201, [(6, .int (nI (f0 + k))), (0, .ref m0), (1, .int (nI p)), (2, .int (nI (by2 f pF))), (3, .int (nI f0)), (4, .int (nI k)), (5, .int (nI (by2 f p)))], [.ref m0, .int (nI (f0 + k)), .ref (q 28)], M621)) rfl rfl rfl ?_
                          refine ps_st (S' := (202, [(6, .int (nI (f0 + k))), (0, .ref m0), (1, .int (nI p)), (2, .int (nI (by2 f pF))), (3, .int (nI f0)), (4, .int (nI k)), (5, .int (nI (by2 f p)))], [.ref m0, .ref m0, .int (nI (f0 + k)), .ref (q 28)], M621)) rfl rfl rfl ?_
                          refine ps_st (S' := (203, [(6, .int (nI (f0 + k))), (0, .ref m0), (1, .int (nI p)), (2, .int (nI (by2 f pF))), (3, .int (nI f0)), (4, .int (nI k)), (5, .int (nI (by2 f p)))], [.int (nI p), .ref m0, .ref m0, .int (nI (f0 + k)), .ref (q 28)], M621)) rfl rfl rfl ?_
                          refine ps_st (S' := (204, [(6, .int (nI (f0 + k))), (0, .ref m0), (1, .int (nI p)), (2, .int (nI (by2 f pF))), (3, .int (nI f0)), (4, .int (nI k)), (5, .int (nI (by2 f p)))], [.int 2, .int (nI p), .ref m0, .ref m0, .int (nI (f0 + k)), .ref (q 28)], M621)) rfl rfl rfl ?_
                          refine ps_st (S' := (205, [(6, .int (nI (f0 + k))), (0, .ref m0), (1, .int (nI p)), (2, .int (nI (by2 f pF))), (3, .int (nI f0)), (4, .int (nI k)), (5, .int (nI (by2 f p)))], [.int ((nI p) + 2), .ref m0, .ref m0, .int (nI (f0 + k)), .ref (q 28)], M621)) rfl rfl rfl ?_
                          rw [nI_add1 (p := p) (k := 2) (x := 2) rfl (by omega)]
                          show pl _ _ _ (_, [(6, .int (nI (f0 + k))), (0, .ref m0), (1, .int (nI p)), (2, .int (nI (by2 f pF))), (3, .int (nI f0)), (4, .int (nI k)), (5, .int (nI (by2 f p)))], [.int (nI (p + 2)), .ref m0, .ref m0, .int (nI (f0 + k)), .ref (q 28)], M621) _
                          refine pl_call (a := [.ref m0, .int (nI (p + 2))]) (rest := [.ref m0, .int (nI (f0 + k)), .ref (q 28)]) rfl rfl rfl (rd_u2 (n := n) (f := f) (p := (p + 2)) hR623 hF_625 (by omega)) (fun v632 M633 q634 => ?_)
                          obtain ⟨rfl, rfl⟩ := q634
                          show pl _ _ _ (208, [(6, .int (nI (f0 + k))), (0, .ref m0), (1, .int (nI p)), (2, .int (nI (by2 f pF))), (3, .int (nI f0)), (4, .int (nI k)), (5, .int (nI (by2 f p)))], [.int (nI (by2 f (p + 2))), .ref m0, .int (nI (f0 + k)), .ref (q 28)], M621) _
                          have hu_205 := by2_lt f (p + 2)
                          refine pl_call (a := [.ref m0, .int (nI (by2 f (p + 2)))]) (rest := [.int (nI (f0 + k)), .ref (q 28)]) rfl rfl rfl (rd_symOf (n := n) (f := f) (tx := tx) (cN := cN) (A := A) (N := N) (mj := mj) (E := E) (k := (by2 f (p + 2))) hR623 hl51 hl52 hl53 hF_625 hY_626 hP_627 (hEP) (hN) (hmj) (by omega)) (fun v635 M636 q637 => ?_)
                          obtain ⟨s638, q208_s, rfl, rfl⟩ := q637
                          show pl _ _ _ (211, [(6, .int (nI (f0 + k))), (0, .ref m0), (1, .int (nI p)), (2, .int (nI (by2 f pF))), (3, .int (nI f0)), (4, .int (nI k)), (5, .int (nI (by2 f p)))], [.int (nI s638), .int (nI (f0 + k)), .ref (q 28)], M621) _
                          have hsl_208 := q208_s.1
                          have htl_208 := hY_626.1.2.2.1
                          refine pr_st (a := 28) (j := f0 + k) rfl hR623 rfl (by omega) (fun M639 R640 i1_211 hR641 hS642 => ?_)
                          have hF_643 := hF_625.mono (fun _ _ => rfl) (rRx hS642 (by decide))
                          have hY_644 := hY_626.mono (fun _ _ => rfl) (rRx hS642 (by decide))
                          have hP_645 := hP_627.mono (fun _ _ => rfl) (rRx hS642 (by decide))
                          have hK_646 := hK_628.mono (fun _ _ => rfl) (rRx hS642 (by decide))
                          have c27_647 := c27_631.mono (fun _ _ => rfl) (rRx hS642 (by decide))
                          have hER648 := hER630.st hS642 (by decide)
                          show pl _ _ _ (212, [(6, .int (nI (f0 + k))), (0, .ref m0), (1, .int (nI p)), (2, .int (nI (by2 f pF))), (3, .int (nI f0)), (4, .int (nI k)), (5, .int (nI (by2 f p)))], [], M639) _
                          have c28_649 : CE 28 (f0 + k) (nI s638) I1 R640 := CE.st hS642
                          have hN9_650 := FN.st (I' := I1) hN9_629 hS642 rfl
                          refine ps_st (S' := (213, [(6, .int (nI (f0 + k))), (0, .ref m0), (1, .int (nI p)), (2, .int (nI (by2 f pF))), (3, .int (nI f0)), (4, .int (nI k)), (5, .int (nI (by2 f p)))], [.ref m0], M639)) rfl rfl rfl ?_
                          refine pr_ref (j := 29) (S' := (216, [(6, .int (nI (f0 + k))), (0, .ref m0), (1, .int (nI p)), (2, .int (nI (by2 f pF))), (3, .int (nI f0)), (4, .int (nI k)), (5, .int (nI (by2 f p)))], [.ref (q 29)], M639)) rfl hR641 rfl rfl ?_
                          refine ps_st (S' := (218, [(6, .int (nI (f0 + k))), (0, .ref m0), (1, .int (nI p)), (2, .int (nI (by2 f pF))), (3, .int (nI f0)), (4, .int (nI k)), (5, .int (nI (by2 f p)))], [.int (nI (f0 + k)), .ref (q 29)], M639)) rfl rfl rfl ?_
                          refine ps_st (S' := (219, [(6, .int (nI (f0 + k))), (0, .ref m0), (1, .int (nI p)), (2, .int (nI (by2 f pF))), (3, .int (nI f0)), (4, .int (nI k)), (5, .int (nI (by2 f p)))], [.ref m0, .int (nI (f0 + k)), .ref (q 29)], M639)) rfl rfl rfl ?_
                          refine ps_st (S' := (220, [(6, .int (nI (f0 + k))), (0, .ref m0), (1, .int (nI p)), (2, .int (nI (by2 f pF))), (3, .int (nI f0)), (4, .int (nI k)), (5, .int (nI (by2 f p)))], [.ref m0, .ref m0, .int (nI (f0 + k)), .ref (q 29)], M639)) rfl rfl rfl ?_
                          refine ps_st (S' := (221, [(6, .int (nI (f0 + k))), (0, .ref m0), (1, .int (nI p)), (2, .int (nI (by2 f pF))), (3, .int (nI f0)), (4, .int (nI k)), (5, .int (nI (by2 f p)))], [.int (nI p), .ref m0, .ref m0, .int (nI (f0 + k)), .ref (q 29)], M639)) rfl rfl rfl ?_
                          refine ps_st (S' := (222, [(6, .int (nI (f0 + k))), (0, .ref m0), (1, .int (nI p)), (2, .int (nI (by2 f pF))), (3, .int (nI f0)), (4, .int (nI k)), (5, .int (nI (by2 f p)))], [.int 4, .int (nI p), .ref m0, .ref m0, .int (nI (f0 + k)), .ref (q 29)], M639)) rfl rfl rfl ?_
                          refine ps_st (S' := (223, [(6, .int (nI (f0 + k))), (0, .ref m0), (1, .int (nI p)), (2, .int (nI (by2 f pF))), (3, .int (nI f0)), (4, .int (nI k)), (5, .int (nI (by2 f p)))], [.int ((nI p) + 4), .ref m0, .ref m0, .int (nI (f0 + k)), .ref (q 29)], M639)) rfl rfl rfl ?_
                          rw [nI_add1 (p := p) (k := 4) (x := 4) rfl (by omega)]
                          show pl _ _ _ (_, [(6, .int (nI (f0 + k))), (0, .ref m0), (1, .int (nI p)), (2, .int (nI (by2 f pF))), (3, .int (nI f0)), (4, .int (nI k)), (5, .int (nI (by2 f p)))], [.int (nI (p + 4)), .ref m0, .ref m0, .int (nI (f0 + k)), .ref (q 29)], M639) _
                          refine pl_call (a := [.ref m0, .int (nI (p + 4))]) (rest := [.ref m0, .int (nI (f0 + k)), .ref (q 29)]) rfl rfl rfl (rd_u2 (n := n) (f := f) (p := (p + 4)) hR641 hF_643 (by omega)) (fun v651 M652 q653 => ?_)
                          obtain ⟨rfl, rfl⟩ := q653
                          show pl _ _ _ (226, [(6, .int (nI (f0 + k))), (0, .ref m0), (1, .int (nI p)), (2, .int (nI (by2 f pF))), (3, .int (nI f0)), (4, .int (nI k)), (5, .int (nI (by2 f p)))], [.int (nI (by2 f (p + 4))), .ref m0, .int (nI (f0 + k)), .ref (q 29)], M639) _
                          have hu_223 := by2_lt f (p + 4)
                          refine pl_call (a := [.ref m0, .int (nI (by2 f (p + 4)))]) (rest := [.int (nI (f0 + k)), .ref (q 29)]) rfl rfl rfl (rd_symOf (n := n) (f := f) (tx := tx) (cN := cN) (A := A) (N := N) (mj := mj) (E := E) (k := (by2 f (p + 4))) hR641 hl51 hl52 hl53 hF_643 hY_644 hP_645 (hEP) (hN) (hmj) (by omega)) (fun v654 M655 q656 => ?_)
                          obtain ⟨s657, q226_s, rfl, rfl⟩ := q656
                          show pl _ _ _ (229, [(6, .int (nI (f0 + k))), (0, .ref m0), (1, .int (nI p)), (2, .int (nI (by2 f pF))), (3, .int (nI f0)), (4, .int (nI k)), (5, .int (nI (by2 f p)))], [.int (nI s657), .int (nI (f0 + k)), .ref (q 29)], M639) _
                          have hsl_226 := q226_s.1
                          have htl_226 := hY_644.1.2.2.1
                          refine pr_st (a := 29) (j := f0 + k) rfl hR641 rfl (by omega) (fun M658 R659 i1_229 hR660 hS661 => ?_)
                          have hF_662 := hF_643.mono (fun _ _ => rfl) (rRx hS661 (by decide))
                          have hY_663 := hY_644.mono (fun _ _ => rfl) (rRx hS661 (by decide))
                          have hP_664 := hP_645.mono (fun _ _ => rfl) (rRx hS661 (by decide))
                          have hK_665 := hK_646.mono (fun _ _ => rfl) (rRx hS661 (by decide))
                          have c27_666 := c27_647.mono (fun _ _ => rfl) (rRx hS661 (by decide))
                          have c28_667 := c28_649.mono (fun _ _ => rfl) (rRx hS661 (by decide))
                          have hER668 := hER648.st hS661 (by decide)
                          show pl _ _ _ (230, [(6, .int (nI (f0 + k))), (0, .ref m0), (1, .int (nI p)), (2, .int (nI (by2 f pF))), (3, .int (nI f0)), (4, .int (nI k)), (5, .int (nI (by2 f p)))], [], M658) _
                          have c29_669 : CE 29 (f0 + k) (nI s657) I1 R659 := CE.st hS661
                          have hN9_670 := FN.st (I' := I1) hN9_650 hS661 rfl
                          refine ps_st (S' := (231, [(6, .int (nI (f0 + k))), (0, .ref m0), (1, .int (nI p)), (2, .int (nI (by2 f pF))), (3, .int (nI f0)), (4, .int (nI k)), (5, .int (nI (by2 f p)))], [.ref m0], M658)) rfl rfl rfl ?_
                          refine pr_ref (j := 30) (S' := (234, [(6, .int (nI (f0 + k))), (0, .ref m0), (1, .int (nI p)), (2, .int (nI (by2 f pF))), (3, .int (nI f0)), (4, .int (nI k)), (5, .int (nI (by2 f p)))], [.ref (q 30)], M658)) rfl hR660 rfl rfl ?_
                          refine ps_st (S' := (236, [(6, .int (nI (f0 + k))), (0, .ref m0), (1, .int (nI p)), (2, .int (nI (by2 f pF))), (3, .int (nI f0)), (4, .int (nI k)), (5, .int (nI (by2 f p)))], [.int (nI (f0 + k)), .ref (q 30)], M658)) rfl rfl rfl ?_
                          refine ps_st (S' := (237, [(6, .int (nI (f0 + k))), (0, .ref m0), (1, .int (nI p)), (2, .int (nI (by2 f pF))), (3, .int (nI f0)), (4, .int (nI k)), (5, .int (nI (by2 f p)))], [.int 0, .int (nI (f0 + k)), .ref (q 30)], M658)) rfl rfl rfl ?_
                          refine pr_st (a := 30) (j := f0 + k) rfl hR660 rfl (by omega) (fun M671 R672 i1_237 hR673 hS674 => ?_)
                          have hF_675 := hF_662.mono (fun _ _ => rfl) (rRx hS674 (by decide))
                          have hY_676 := hY_663.mono (fun _ _ => rfl) (rRx hS674 (by decide))
                          have hP_677 := hP_664.mono (fun _ _ => rfl) (rRx hS674 (by decide))
                          have hK_678 := hK_665.mono (fun _ _ => rfl) (rRx hS674 (by decide))
                          have c27_679 := c27_666.mono (fun _ _ => rfl) (rRx hS674 (by decide))
                          have c28_680 := c28_667.mono (fun _ _ => rfl) (rRx hS674 (by decide))
                          have c29_681 := c29_669.mono (fun _ _ => rfl) (rRx hS674 (by decide))
                          have hN9_682 := hN9_670.mono (fun _ _ => rfl) (rRx hS674 (by decide))
                          have hER683 := hER668.st hS674 (by decide)
                          show pl _ _ _ (238, [(6, .int (nI (f0 + k))), (0, .ref m0), (1, .int (nI p)), (2, .int (nI (by2 f pF))), (3, .int (nI f0)), (4, .int (nI k)), (5, .int (nI (by2 f p)))], [], M671) _
                          refine ps_st (S' := (239, [(6, .int (nI (f0 + k))), (0, .ref m0), (1, .int (nI p)), (2, .int (nI (by2 f pF))), (3, .int (nI f0)), (4, .int (nI k)), (5, .int (nI (by2 f p)))], [.ref m0], M671)) rfl rfl rfl ?_
                          refine pr_ref (j := 31) (S' := (242, [(6, .int (nI (f0 + k))), (0, .ref m0), (1, .int (nI p)), (2, .int (nI (by2 f pF))), (3, .int (nI f0)), (4, .int (nI k)), (5, .int (nI (by2 f p)))], [.ref (q 31)], M671)) rfl hR673 rfl rfl ?_
                          refine ps_st (S' := (244, [(6, .int (nI (f0 + k))), (0, .ref m0), (1, .int (nI p)), (2, .int (nI (by2 f pF))), (3, .int (nI f0)), (4, .int (nI k)), (5, .int (nI (by2 f p)))], [.int (nI (f0 + k)), .ref (q 31)], M671)) rfl rfl rfl ?_
                          refine ps_st (S' := (245, [(6, .int (nI (f0 + k))), (0, .ref m0), (1, .int (nI p)), (2, .int (nI (by2 f pF))), (3, .int (nI f0)), (4, .int (nI k)), (5, .int (nI (by2 f p)))], [.int 0, .int (nI (f0 + k)), .ref (q 31)], M671)) rfl rfl rfl ?_
                          refine pr_st (a := 31) (j := f0 + k) rfl hR673 rfl (by omega) (fun M684 R685 i1_245 hR686 hS687 => ?_)
                          have hF_688 := hF_675.mono (fun _ _ => rfl) (rRx hS687 (by decide))
                          have hY_689 := hY_676.mono (fun _ _ => rfl) (rRx hS687 (by decide))
                          have hP_690 := hP_677.mono (fun _ _ => rfl) (rRx hS687 (by decide))
                          have hK_691 := hK_678.mono (fun _ _ => rfl) (rRx hS687 (by decide))
                          have c27_692 := c27_679.mono (fun _ _ => rfl) (rRx hS687 (by decide))
                          have c28_693 := c28_680.mono (fun _ _ => rfl) (rRx hS687 (by decide))
                          have c29_694 := c29_681.mono (fun _ _ => rfl) (rRx hS687 (by decide))
                          have hN9_695 := hN9_682.mono (fun _ _ => rfl) (rRx hS687 (by decide))
                          have hER696 := hER683.st hS687 (by decide)
                          show pl _ _ _ (246, [(6, .int (nI (f0 + k))), (0, .ref m0), (1, .int (nI p)), (2, .int (nI (by2 f pF))), (3, .int (nI f0)), (4, .int (nI k)), (5, .int (nI (by2 f p)))], [], M684) _
                          refine ps_st (S' := (247, [(6, .int (nI (f0 + k))), (0, .ref m0), (1, .int (nI p)), (2, .int (nI (by2 f pF))), (3, .int (nI f0)), (4, .int (nI k)), (5, .int (nI (by2 f p)))], [.ref m0], M684)) rfl rfl rfl ?_
                          refine pr_ref (j := 32) (S' := (250, [(6, .int (nI (f0 + k))), (0, .ref m0), (1, .int (nI p)), (2, .int (nI (by2 f pF))), (3, .int (nI f0)), (4, .int (nI k)), (5, .int (nI (by2 f p)))], [.ref (q 32)], M684)) rfl hR686 rfl rfl ?_
                          refine ps_st (S' := (252, [(6, .int (nI (f0 + k))), (0, .ref m0), (1, .int (nI p)), (2, .int (nI (by2 f pF))), (3, .int (nI f0)), (4, .int (nI k)), (5, .int (nI (by2 f p)))], [.int (nI (f0 + k)), .ref (q 32)], M684)) rfl rfl rfl ?_
                          refine ps_st (S' := (253, [(6, .int (nI (f0 + k))), (0, .ref m0), (1, .int (nI p)), (2, .int (nI (by2 f pF))), (3, .int (nI f0)), (4, .int (nI k)), (5, .int (nI (by2 f p)))], [.ref m0, .int (nI (f0 + k)), .ref (q 32)], M684)) rfl rfl rfl ?_
                          refine ps_st (S' := (254, [(6, .int (nI (f0 + k))), (0, .ref m0), (1, .int (nI p)), (2, .int (nI (by2 f pF))), (3, .int (nI f0)), (4, .int (nI k)), (5, .int (nI (by2 f p)))], [.int (nI p), .ref m0, .int (nI (f0 + k)), .ref (q 32)], M684)) rfl rfl rfl ?_
                          refine ps_st (S' := (255, [(6, .int (nI (f0 + k))), (0, .ref m0), (1, .int (nI p)), (2, .int (nI (by2 f pF))), (3, .int (nI f0)), (4, .int (nI k)), (5, .int (nI (by2 f p)))], [.int 2, .int (nI p), .ref m0, .int (nI (f0 + k)), .ref (q 32)], M684)) rfl rfl rfl ?_
                          refine ps_st (S' := (256, [(6, .int (nI (f0 + k))), (0, .ref m0), (1, .int (nI p)), (2, .int (nI (by2 f pF))), (3, .int (nI f0)), (4, .int (nI k)), (5, .int (nI (by2 f p)))], [.int ((nI p) + 2), .ref m0, .int (nI (f0 + k)), .ref (q 32)], M684)) rfl rfl rfl ?_
                          rw [nI_add1 (p := p) (k := 2) (x := 2) rfl (by omega)]
                          show pl _ _ _ (_, [(6, .int (nI (f0 + k))), (0, .ref m0), (1, .int (nI p)), (2, .int (nI (by2 f pF))), (3, .int (nI f0)), (4, .int (nI k)), (5, .int (nI (by2 f p)))], [.int (nI (p + 2)), .ref m0, .int (nI (f0 + k)), .ref (q 32)], M684) _
                          refine pl_call (a := [.ref m0, .int (nI (p + 2))]) (rest := [.int (nI (f0 + k)), .ref (q 32)]) rfl rfl rfl (rd_u2 (n := n) (f := f) (p := (p + 2)) hR686 hF_688 (by omega)) (fun v697 M698 q699 => ?_)
                          obtain ⟨rfl, rfl⟩ := q699
                          show pl _ _ _ (259, [(6, .int (nI (f0 + k))), (0, .ref m0), (1, .int (nI p)), (2, .int (nI (by2 f pF))), (3, .int (nI f0)), (4, .int (nI k)), (5, .int (nI (by2 f p)))], [.int (nI (by2 f (p + 2))), .int (nI (f0 + k)), .ref (q 32)], M684) _
                          have hu_256 := by2_lt f (p + 2)
                          refine pr_st (a := 32) (j := f0 + k) rfl hR686 rfl (by omega) (fun M700 R701 i1_259 hR702 hS703 => ?_)
                          have hF_704 := hF_688.mono (fun _ _ => rfl) (rRx hS703 (by decide))
                          have hY_705 := hY_689.mono (fun _ _ => rfl) (rRx hS703 (by decide))
                          have hP_706 := hP_690.mono (fun _ _ => rfl) (rRx hS703 (by decide))
                          have hK_707 := hK_691.mono (fun _ _ => rfl) (rRx hS703 (by decide))
                          have c27_708 := c27_692.mono (fun _ _ => rfl) (rRx hS703 (by decide))
                          have c28_709 := c28_693.mono (fun _ _ => rfl) (rRx hS703 (by decide))
                          have c29_710 := c29_694.mono (fun _ _ => rfl) (rRx hS703 (by decide))
                          have hN9_711 := hN9_695.mono (fun _ _ => rfl) (rRx hS703 (by decide))
                          have hER712 := hER696.st hS703 (by decide)
                          show pl _ _ _ (260, [(6, .int (nI (f0 + k))), (0, .ref m0), (1, .int (nI p)), (2, .int (nI (by2 f pF))), (3, .int (nI f0)), (4, .int (nI k)), (5, .int (nI (by2 f p)))], [], M700) _
                          refine ps_st (S' := (261, [(6, .int (nI (f0 + k))), (0, .ref m0), (1, .int (nI p)), (2, .int (nI (by2 f pF))), (3, .int (nI f0)), (4, .int (nI k)), (5, .int (nI (by2 f p)))], [.ref m0], M700)) rfl rfl rfl ?_
                          refine pr_ref (j := 33) (S' := (264, [(6, .int (nI (f0 + k))), (0, .ref m0), (1, .int (nI p)), (2, .int (nI (by2 f pF))), (3, .int (nI f0)), (4, .int (nI k)), (5, .int (nI (by2 f p)))], [.ref (q 33)], M700)) rfl hR702 rfl rfl ?_
                          refine ps_st (S' := (266, [(6, .int (nI (f0 + k))), (0, .ref m0), (1, .int (nI p)), (2, .int (nI (by2 f pF))), (3, .int (nI f0)), (4, .int (nI k)), (5, .int (nI (by2 f p)))], [.int (nI (f0 + k)), .ref (q 33)], M700)) rfl rfl rfl ?_
                          refine ps_st (S' := (267, [(6, .int (nI (f0 + k))), (0, .ref m0), (1, .int (nI p)), (2, .int (nI (by2 f pF))), (3, .int (nI f0)), (4, .int (nI k)), (5, .int (nI (by2 f p)))], [.ref m0, .int (nI (f0 + k)), .ref (q 33)], M700)) rfl rfl rfl ?_
                          refine ps_st (S' := (268, [(6, .int (nI (f0 + k))), (0, .ref m0), (1, .int (nI p)), (2, .int (nI (by2 f pF))), (3, .int (nI f0)), (4, .int (nI k)), (5, .int (nI (by2 f p)))], [.int (nI p), .ref m0, .int (nI (f0 + k)), .ref (q 33)], M700)) rfl rfl rfl ?_
                          refine ps_st (S' := (269, [(6, .int (nI (f0 + k))), (0, .ref m0), (1, .int (nI p)), (2, .int (nI (by2 f pF))), (3, .int (nI f0)), (4, .int (nI k)), (5, .int (nI (by2 f p)))], [.int 4, .int (nI p), .ref m0, .int (nI (f0 + k)), .ref (q 33)], M700)) rfl rfl rfl ?_
                          refine ps_st (S' := (270, [(6, .int (nI (f0 + k))), (0, .ref m0), (1, .int (nI p)), (2, .int (nI (by2 f pF))), (3, .int (nI f0)), (4, .int (nI k)), (5, .int (nI (by2 f p)))], [.int ((nI p) + 4), .ref m0, .int (nI (f0 + k)), .ref (q 33)], M700)) rfl rfl rfl ?_
                          rw [nI_add1 (p := p) (k := 4) (x := 4) rfl (by omega)]
                          show pl _ _ _ (_, [(6, .int (nI (f0 + k))), (0, .ref m0), (1, .int (nI p)), (2, .int (nI (by2 f pF))), (3, .int (nI f0)), (4, .int (nI k)), (5, .int (nI (by2 f p)))], [.int (nI (p + 4)), .ref m0, .int (nI (f0 + k)), .ref (q 33)], M700) _
                          refine pl_call (a := [.ref m0, .int (nI (p + 4))]) (rest := [.int (nI (f0 + k)), .ref (q 33)]) rfl rfl rfl (rd_u2 (n := n) (f := f) (p := (p + 4)) hR702 hF_704 (by omega)) (fun v713 M714 q715 => ?_)
                          obtain ⟨rfl, rfl⟩ := q715
                          show pl _ _ _ (273, [(6, .int (nI (f0 + k))), (0, .ref m0), (1, .int (nI p)), (2, .int (nI (by2 f pF))), (3, .int (nI f0)), (4, .int (nI k)), (5, .int (nI (by2 f p)))], [.int (nI (by2 f (p + 4))), .int (nI (f0 + k)), .ref (q 33)], M700) _
                          have hu_270 := by2_lt f (p + 4)
                          refine pr_st (a := 33) (j := f0 + k) rfl hR702 rfl (by omega) (fun M716 R717 i1_273 hR718 hS719 => ?_)
                          have hF_720 := hF_704.mono (fun _ _ => rfl) (rRx hS719 (by decide))
                          have hY_721 := hY_705.mono (fun _ _ => rfl) (rRx hS719 (by decide))
                          have hP_722 := hP_706.mono (fun _ _ => rfl) (rRx hS719 (by decide))
                          have hK_723 := hK_707.mono (fun _ _ => rfl) (rRx hS719 (by decide))
                          have c27_724 := c27_708.mono (fun _ _ => rfl) (rRx hS719 (by decide))
                          have c28_725 := c28_709.mono (fun _ _ => rfl) (rRx hS719 (by decide))
                          have c29_726 := c29_710.mono (fun _ _ => rfl) (rRx hS719 (by decide))
                          have hN9_727 := hN9_711.mono (fun _ _ => rfl) (rRx hS719 (by decide))
                          have hER728 := hER712.st hS719 (by decide)
                          show pl _ _ _ (274, [(6, .int (nI (f0 + k))), (0, .ref m0), (1, .int (nI p)), (2, .int (nI (by2 f pF))), (3, .int (nI f0)), (4, .int (nI k)), (5, .int (nI (by2 f p)))], [], M716) _
                          refine ps_st (S' := (275, [(6, .int (nI (f0 + k))), (0, .ref m0), (1, .int (nI p)), (2, .int (nI (by2 f pF))), (3, .int (nI f0)), (4, .int (nI k)), (5, .int (nI (by2 f p)))], [.int (nI f0)], M716)) rfl rfl rfl ?_
                          refine ps_st (S' := (277, [(0, .ref m0), (1, .int (nI p)), (2, .int (nI (by2 f pF))), (3, .int (nI f0)), (4, .int (nI k)), (6, .int (nI (f0 + k))), (7, .int (nI f0))], [], M716)) rfl rfl rfl ?_
                          have h19 : ¬ fflN cf (by2 f p) = 0 := by
                            have e1 := ffl_0 cf (by2 f p)
                            have e2 := sev_0 (by2 f p)
                            have e3 := hall_80 (by2 f p)
                            omega
                          exact ih.2 (k) (p) (0) (s638) (s657) M716 I1 R717 hR718 hEI1 hER728 hl51 hl52 hl53 hl58 hl55 hl25 hF_720 hY_721 hP_722 hK_723 hN9_727 c27_724 c28_725 c29_726 (by omega) (hpk) (by omega) (hs) (by omega) (by omega) (q208_s) (q226_s) (by omega) (by omega) (h19) (by omega) (by omega) (rfl)
                        · have c_166 : ¬ (¬ (nI (fldN (tX f n E (by2 f (p + 4))))) = 0) := of_decide_eq_false c_166
                          have n_166 : fldN (tX f n E (by2 f (p + 4))) = 0 := (eq_nI (p := fldN (tX f n E (by2 f (p + 4)))) (n := 0) (Nat.lt_trans (le1_fld _) (by decide)) (by decide)).mp (Decidable.not_not.mp c_166)
                          refine ps_st (S' := (170, [(0, .ref m0), (1, .int (nI p))], [.ref m0], M1)) rfl rfl rfl ?_
                          refine ps_st (S' := (172, [(0, .ref m0), (1, .int (nI p))], [.int 21, .ref m0], M1)) rfl rfl rfl ?_
                          refine ps_st (S' := (173, [(0, .ref m0), (1, .int (nI p))], [.int (nI p), .int 21, .ref m0], M1)) rfl rfl rfl ?_
                          refine ps_st (S' := (174, [(0, .ref m0), (1, .int (nI p))], [.int 4, .int (nI p), .int 21, .ref m0], M1)) rfl rfl rfl ?_
                          refine ps_st (S' := (175, [(0, .ref m0), (1, .int (nI p))], [.int ((nI p) + 4), .int 21, .ref m0], M1)) rfl rfl rfl ?_
                          rw [nI_add1 (p := p) (k := 4) (x := 4) rfl (by omega)]
                          show pl _ _ _ (_, [(0, .ref m0), (1, .int (nI p))], [.int (nI (p + 4)), .int 21, .ref m0], M1) _
                          refine pl_call (a := [.ref m0, .int 21, .int (nI (p + 4))]) (rest := []) rfl rfl rfl (rd_wrong (x1 := 21) (x2 := (nI (p + 4))) hR1) (fun v729 M730 q731 => ?_)
                          obtain ⟨I732, R733, rfl, hR734, hI735, hX736, hi737, hi738⟩ := q731
                          have hi739 := (hI735 51 (by decide)).trans hl51
                          have hi740 := (hI735 52 (by decide)).trans hl52
                          have hi741 := (hI735 53 (by decide)).trans hl53
                          have hi742 := (hI735 58 (by decide)).trans hl58
                          have hi743 := (hI735 55 (by decide)).trans hl55
                          have hi744 := (hI735 25 (by decide)).trans hl25
                          have hF_745 := hF1.mono (cIx hI735 (by decide)) (cRx hX736 (by decide))
                          have hY_746 := hY1.mono (cIx hI735 (by decide)) (cRx hX736 (by decide))
                          have hP_747 := hP1.mono (cIx hI735 (by decide)) (cRx hX736 (by decide))
                          have hK_748 := hK1.mono (cIx hI735 (by decide)) (cRx hX736 (by decide))
                          have hN9_749 := hN91.mono (cIx hI735 (by decide)) (cRx hX736 (by decide))
                          have hEI750 := hEI1.tr hI735 (by decide)
                          have hER751 := hER1.tr hX736 (by decide)
                          show pl _ _ _ (178, [(0, .ref m0), (1, .int (nI p))], [.int 0], M730) _
                          exact ps_ret rfl rfl (Or.inr ⟨(21, p + 4), I732, R733, by
                              rw [← hs, flS_st (i := k) (by omega), ← hpk, fh_21 (by have e1 := ffl_0 cf (by2 f p); have e2 := sev_0 (by2 f p); have e3 := hall_80 (by2 f p); omega) (by omega) (by omega)], rfl, hR734, hEI750, hER751, hi737, hi738⟩)
                    · have c_123 : ¬ (¬ (nI (unqN (tX f n E (by2 f (p + 2))))) = 0) := of_decide_eq_false c_123
                      have n_123 : unqN (tX f n E (by2 f (p + 2))) = 0 := (eq_nI (p := unqN (tX f n E (by2 f (p + 2)))) (n := 0) (Nat.lt_trans (le1_unq _) (by decide)) (by decide)).mp (Decidable.not_not.mp c_123)
                      refine ps_st (S' := (127, [(0, .ref m0), (1, .int (nI p))], [.ref m0], M1)) rfl rfl rfl ?_
                      refine ps_st (S' := (129, [(0, .ref m0), (1, .int (nI p))], [.int 20, .ref m0], M1)) rfl rfl rfl ?_
                      refine ps_st (S' := (130, [(0, .ref m0), (1, .int (nI p))], [.int (nI p), .int 20, .ref m0], M1)) rfl rfl rfl ?_
                      refine ps_st (S' := (131, [(0, .ref m0), (1, .int (nI p))], [.int 2, .int (nI p), .int 20, .ref m0], M1)) rfl rfl rfl ?_
                      refine ps_st (S' := (132, [(0, .ref m0), (1, .int (nI p))], [.int ((nI p) + 2), .int 20, .ref m0], M1)) rfl rfl rfl ?_
                      rw [nI_add1 (p := p) (k := 2) (x := 2) rfl (by omega)]
                      show pl _ _ _ (_, [(0, .ref m0), (1, .int (nI p))], [.int (nI (p + 2)), .int 20, .ref m0], M1) _
                      refine pl_call (a := [.ref m0, .int 20, .int (nI (p + 2))]) (rest := []) rfl rfl rfl (rd_wrong (x1 := 20) (x2 := (nI (p + 2))) hR1) (fun v752 M753 q754 => ?_)
                      obtain ⟨I755, R756, rfl, hR757, hI758, hX759, hi760, hi761⟩ := q754
                      have hi762 := (hI758 51 (by decide)).trans hl51
                      have hi763 := (hI758 52 (by decide)).trans hl52
                      have hi764 := (hI758 53 (by decide)).trans hl53
                      have hi765 := (hI758 58 (by decide)).trans hl58
                      have hi766 := (hI758 55 (by decide)).trans hl55
                      have hi767 := (hI758 25 (by decide)).trans hl25
                      have hF_768 := hF1.mono (cIx hI758 (by decide)) (cRx hX759 (by decide))
                      have hY_769 := hY1.mono (cIx hI758 (by decide)) (cRx hX759 (by decide))
                      have hP_770 := hP1.mono (cIx hI758 (by decide)) (cRx hX759 (by decide))
                      have hK_771 := hK1.mono (cIx hI758 (by decide)) (cRx hX759 (by decide))
                      have hN9_772 := hN91.mono (cIx hI758 (by decide)) (cRx hX759 (by decide))
                      have hEI773 := hEI1.tr hI758 (by decide)
                      have hER774 := hER1.tr hX759 (by decide)
                      show pl _ _ _ (135, [(0, .ref m0), (1, .int (nI p))], [.int 0], M753) _
                      exact ps_ret rfl rfl (Or.inr ⟨(20, p + 2), I755, R756, by
                          rw [← hs, flS_st (i := k) (by omega), ← hpk, fh_20 (by have e1 := ffl_0 cf (by2 f p); have e2 := sev_0 (by2 f p); have e3 := hall_80 (by2 f p); omega) (by omega)], rfl, hR757, hEI773, hER774, hi760, hi761⟩)
                · have c_70 : ¬ ((nI (aN cf 512)) = 0) := of_decide_eq_false c_70
                  have n_70 : ¬ (aN cf 512 = 0) := fun h9 => c_70 ((eq_nI (p := aN cf 512) (n := 0) (Nat.lt_of_le_of_lt (an_le _ _) (by decide)) (by decide)).mpr h9)
                  refine ps_st (S' := (75, [(0, .ref m0), (1, .int (nI p)), (2, .int (nI (by2 f pF))), (3, .int (nI f0)), (4, .int (nI k)), (5, .int (nI (by2 f p)))], [.int (nI (by2 f p))], M1)) rfl rfl rfl ?_
                  refine ps_st (S' := (78, [(0, .ref m0), (1, .int (nI p)), (2, .int (nI (by2 f pF))), (3, .int (nI f0)), (4, .int (nI k)), (5, .int (nI (by2 f p)))], [.int 16607, .int (nI (by2 f p))], M1)) rfl rfl rfl ?_
                  refine ps_st (S' := (79, [(0, .ref m0), (1, .int (nI p)), (2, .int (nI (by2 f pF))), (3, .int (nI f0)), (4, .int (nI k)), (5, .int (nI (by2 f p)))], [.int ((nI (by2 f p)) &&& 16607)], M1)) rfl rfl rfl ?_
                  rw [nI_an (p := by2 f p) (k := 16607) (x := 16607) rfl]
                  show pl _ _ _ (_, [(0, .ref m0), (1, .int (nI p)), (2, .int (nI (by2 f pF))), (3, .int (nI f0)), (4, .int (nI k)), (5, .int (nI (by2 f p)))], [.int (nI (aN (by2 f p) 16607))], M1) _
                  refine ps_st (S' := (81, [(0, .ref m0), (1, .int (nI p)), (2, .int (nI (by2 f pF))), (3, .int (nI f0)), (4, .int (nI k)), (5, .int (nI (by2 f p)))], [.int 25, .int (nI (aN (by2 f p) 16607))], M1)) rfl rfl rfl ?_
                  refine ps_if2 (S1 := (92, [(0, .ref m0), (1, .int (nI p)), (2, .int (nI (by2 f pF))), (3, .int (nI f0)), (4, .int (nI k)), (5, .int (nI (by2 f p)))], [], M1)) (S2 := (84, [(0, .ref m0), (1, .int (nI p))], [], M1)) rfl rfl rfl (fun c_81 => ?_) (fun c_81 => ?_)
                  · have c_81 : (nI (aN (by2 f p) 16607)) = 25 := of_decide_eq_true c_81
                    have n_81 : aN (by2 f p) 16607 = 25 := (eq_nI (p := aN (by2 f p) 16607) (n := 25) (Nat.lt_of_le_of_lt (an_le _ _) (by decide)) (by decide)).mp c_81
                    refine ps_st (S' := (93, [(0, .ref m0), (1, .int (nI p)), (2, .int (nI (by2 f pF))), (3, .int (nI f0)), (4, .int (nI k)), (5, .int (nI (by2 f p)))], [.ref m0], M1)) rfl rfl rfl ?_
                    refine ps_st (S' := (94, [(0, .ref m0), (1, .int (nI p)), (2, .int (nI (by2 f pF))), (3, .int (nI f0)), (4, .int (nI k)), (5, .int (nI (by2 f p)))], [.ref m0, .ref m0], M1)) rfl rfl rfl ?_
                    refine ps_st (S' := (95, [(0, .ref m0), (1, .int (nI p)), (2, .int (nI (by2 f pF))), (3, .int (nI f0)), (4, .int (nI k)), (5, .int (nI (by2 f p)))], [.int (nI p), .ref m0, .ref m0], M1)) rfl rfl rfl ?_
                    refine ps_st (S' := (96, [(0, .ref m0), (1, .int (nI p)), (2, .int (nI (by2 f pF))), (3, .int (nI f0)), (4, .int (nI k)), (5, .int (nI (by2 f p)))], [.int 2, .int (nI p), .ref m0, .ref m0], M1)) rfl rfl rfl ?_
                    refine ps_st (S' := (97, [(0, .ref m0), (1, .int (nI p)), (2, .int (nI (by2 f pF))), (3, .int (nI f0)), (4, .int (nI k)), (5, .int (nI (by2 f p)))], [.int ((nI p) + 2), .ref m0, .ref m0], M1)) rfl rfl rfl ?_
                    rw [nI_add1 (p := p) (k := 2) (x := 2) rfl (by omega)]
                    show pl _ _ _ (_, [(0, .ref m0), (1, .int (nI p)), (2, .int (nI (by2 f pF))), (3, .int (nI f0)), (4, .int (nI k)), (5, .int (nI (by2 f p)))], [.int (nI (p + 2)), .ref m0, .ref m0], M1) _
                    refine pl_call (a := [.ref m0, .int (nI (p + 2))]) (rest := [.ref m0]) rfl rfl rfl (rd_u2 (n := n) (f := f) (p := (p + 2)) hR1 hF1 (by omega)) (fun v775 M776 q777 => ?_)
                    obtain ⟨rfl, rfl⟩ := q777
                    show pl _ _ _ (100, [(0, .ref m0), (1, .int (nI p)), (2, .int (nI (by2 f pF))), (3, .int (nI f0)), (4, .int (nI k)), (5, .int (nI (by2 f p)))], [.int (nI (by2 f (p + 2))), .ref m0], M1) _
                    have hu_97 := by2_lt f (p + 2)
                    refine pl_call (a := [.ref m0, .int (nI (by2 f (p + 2)))]) (rest := []) rfl rfl rfl (rd_tag (n := n) (f := f) (tx := tx) (cN := cN) (A := A) (N := N) (mj := mj) (E := E) (k := (by2 f (p + 2))) hR1 hl51 hl52 hl53 hF1 hY1 hP1 (hEP) (hN) (hmj) (by2_lt _ _)) (fun v778 M779 q780 => ?_)
                    obtain ⟨rfl, rfl⟩ := q780
                    show pl _ _ _ (103, [(0, .ref m0), (1, .int (nI p)), (2, .int (nI (by2 f pF))), (3, .int (nI f0)), (4, .int (nI k)), (5, .int (nI (by2 f p)))], [.int (nI (tg f E (by2 f (p + 2))))], M1) _
                    have htg_100 := tg_lt f E (by2 f (p + 2))
                    refine ps_st (S' := (104, [(0, .ref m0), (1, .int (nI p)), (2, .int (nI (by2 f pF))), (3, .int (nI f0)), (4, .int (nI k)), (5, .int (nI (by2 f p)))], [.int 1, .int (nI (tg f E (by2 f (p + 2))))], M1)) rfl rfl rfl ?_
                    refine ps_if2 (S1 := (126, [(0, .ref m0), (1, .int (nI p))], [], M1)) (S2 := (107, [(0, .ref m0), (1, .int (nI p)), (2, .int (nI (by2 f pF))), (3, .int (nI f0)), (4, .int (nI k)), (5, .int (nI (by2 f p)))], [], M1)) rfl rfl rfl (fun c_104 => ?_) (fun c_104 => ?_)
                    · have c_104 : ¬ (nI (tg f E (by2 f (p + 2)))) = 1 := of_decide_eq_true c_104
                      have n_104 : ¬ (tg f E (by2 f (p + 2)) = 1) := fun h9 => c_104 ((eq_nI (p := tg f E (by2 f (p + 2))) (n := 1) (Nat.lt_trans (tg_lt _ _ _) (by decide)) (by decide)).mpr h9)
                      refine ps_st (S' := (127, [(0, .ref m0), (1, .int (nI p))], [.ref m0], M1)) rfl rfl rfl ?_
                      refine ps_st (S' := (129, [(0, .ref m0), (1, .int (nI p))], [.int 20, .ref m0], M1)) rfl rfl rfl ?_
                      refine ps_st (S' := (130, [(0, .ref m0), (1, .int (nI p))], [.int (nI p), .int 20, .ref m0], M1)) rfl rfl rfl ?_
                      refine ps_st (S' := (131, [(0, .ref m0), (1, .int (nI p))], [.int 2, .int (nI p), .int 20, .ref m0], M1)) rfl rfl rfl ?_
                      refine ps_st (S' := (132, [(0, .ref m0), (1, .int (nI p))], [.int ((nI p) + 2), .int 20, .ref m0], M1)) rfl rfl rfl ?_
                      rw [nI_add1 (p := p) (k := 2) (x := 2) rfl (by omega)]
                      show pl _ _ _ (_, [(0, .ref m0), (1, .int (nI p))], [.int (nI (p + 2)), .int 20, .ref m0], M1) _
                      refine pl_call (a := [.ref m0, .int 20, .int (nI (p + 2))]) (rest := []) rfl rfl rfl (rd_wrong (x1 := 20) (x2 := (nI (p + 2))) hR1) (fun v781 M782 q783 => ?_)
                      obtain ⟨I784, R785, rfl, hR786, hI787, hX788, hi789, hi790⟩ := q783
                      have hi791 := (hI787 51 (by decide)).trans hl51
                      have hi792 := (hI787 52 (by decide)).trans hl52
                      have hi793 := (hI787 53 (by decide)).trans hl53
                      have hi794 := (hI787 58 (by decide)).trans hl58
                      have hi795 := (hI787 55 (by decide)).trans hl55
                      have hi796 := (hI787 25 (by decide)).trans hl25
                      have hF_797 := hF1.mono (cIx hI787 (by decide)) (cRx hX788 (by decide))
                      have hY_798 := hY1.mono (cIx hI787 (by decide)) (cRx hX788 (by decide))
                      have hP_799 := hP1.mono (cIx hI787 (by decide)) (cRx hX788 (by decide))
                      have hK_800 := hK1.mono (cIx hI787 (by decide)) (cRx hX788 (by decide))
                      have hN9_801 := hN91.mono (cIx hI787 (by decide)) (cRx hX788 (by decide))
                      have hEI802 := hEI1.tr hI787 (by decide)
                      have hER803 := hER1.tr hX788 (by decide)
                      show pl _ _ _ (135, [(0, .ref m0), (1, .int (nI p))], [.int 0], M782) _
                      exact ps_ret rfl rfl (Or.inr ⟨(20, p + 2), I784, R785, by
                          rw [← hs, flS_st (i := k) (by omega), ← hpk, fh_20 (by have e1 := ffl_0 cf (by2 f p); have e2 := sev_0 (by2 f p); have e3 := hall_80 (by2 f p); omega) (by rw [tx_no (by omega)]; decide)], rfl, hR786, hEI802, hER803, hi789, hi790⟩)
                    · have c_104 : ¬ (¬ (nI (tg f E (by2 f (p + 2)))) = 1) := of_decide_eq_false c_104
                      have n_104 : tg f E (by2 f (p + 2)) = 1 := (eq_nI (p := tg f E (by2 f (p + 2))) (n := 1) (Nat.lt_trans (tg_lt _ _ _) (by decide)) (by decide)).mp (Decidable.not_not.mp c_104)
                      refine ps_st (S' := (108, [(0, .ref m0), (1, .int (nI p)), (2, .int (nI (by2 f pF))), (3, .int (nI f0)), (4, .int (nI k)), (5, .int (nI (by2 f p)))], [.ref m0], M1)) rfl rfl rfl ?_
                      refine ps_st (S' := (109, [(0, .ref m0), (1, .int (nI p)), (2, .int (nI (by2 f pF))), (3, .int (nI f0)), (4, .int (nI k)), (5, .int (nI (by2 f p)))], [.ref m0, .ref m0], M1)) rfl rfl rfl ?_
                      refine ps_st (S' := (110, [(0, .ref m0), (1, .int (nI p)), (2, .int (nI (by2 f pF))), (3, .int (nI f0)), (4, .int (nI k)), (5, .int (nI (by2 f p)))], [.ref m0, .ref m0, .ref m0], M1)) rfl rfl rfl ?_
                      refine ps_st (S' := (111, [(0, .ref m0), (1, .int (nI p)), (2, .int (nI (by2 f pF))), (3, .int (nI f0)), (4, .int (nI k)), (5, .int (nI (by2 f p)))], [.int (nI p), .ref m0, .ref m0, .ref m0], M1)) rfl rfl rfl ?_
                      refine ps_st (S' := (112, [(0, .ref m0), (1, .int (nI p)), (2, .int (nI (by2 f pF))), (3, .int (nI f0)), (4, .int (nI k)), (5, .int (nI (by2 f p)))], [.int 2, .int (nI p), .ref m0, .ref m0, .ref m0], M1)) rfl rfl rfl ?_
                      refine ps_st (S' := (113, [(0, .ref m0), (1, .int (nI p)), (2, .int (nI (by2 f pF))), (3, .int (nI f0)), (4, .int (nI k)), (5, .int (nI (by2 f p)))], [.int ((nI p) + 2), .ref m0, .ref m0, .ref m0], M1)) rfl rfl rfl ?_
                      rw [nI_add1 (p := p) (k := 2) (x := 2) rfl (by omega)]
                      show pl _ _ _ (_, [(0, .ref m0), (1, .int (nI p)), (2, .int (nI (by2 f pF))), (3, .int (nI f0)), (4, .int (nI k)), (5, .int (nI (by2 f p)))], [.int (nI (p + 2)), .ref m0, .ref m0, .ref m0], M1) _
                      refine pl_call (a := [.ref m0, .int (nI (p + 2))]) (rest := [.ref m0, .ref m0]) rfl rfl rfl (rd_u2 (n := n) (f := f) (p := (p + 2)) hR1 hF1 (by omega)) (fun v804 M805 q806 => ?_)
                      obtain ⟨rfl, rfl⟩ := q806
                      show pl _ _ _ (116, [(0, .ref m0), (1, .int (nI p)), (2, .int (nI (by2 f pF))), (3, .int (nI f0)), (4, .int (nI k)), (5, .int (nI (by2 f p)))], [.int (nI (by2 f (p + 2))), .ref m0, .ref m0], M1) _
                      have hu_113 := by2_lt f (p + 2)
                      refine pl_call (a := [.ref m0, .int (nI (by2 f (p + 2)))]) (rest := [.ref m0]) rfl rfl rfl (rd_symOf (n := n) (f := f) (tx := tx) (cN := cN) (A := A) (N := N) (mj := mj) (E := E) (k := (by2 f (p + 2))) hR1 hl51 hl52 hl53 hF1 hY1 hP1 (hEP) (hN) (hmj) (by omega)) (fun v807 M808 q809 => ?_)
                      obtain ⟨s810, q116_s, rfl, rfl⟩ := q809
                      show pl _ _ _ (119, [(0, .ref m0), (1, .int (nI p)), (2, .int (nI (by2 f pF))), (3, .int (nI f0)), (4, .int (nI k)), (5, .int (nI (by2 f p)))], [.int (nI s810), .ref m0], M1) _
                      have hsl_116 := q116_s.1
                      have htl_116 := hY1.1.2.2.1
                      refine ps_st (S' := (120, [(0, .ref m0), (1, .int (nI p)), (2, .int (nI (by2 f pF))), (3, .int (nI f0)), (4, .int (nI k)), (5, .int (nI (by2 f p)))], [.int 1, .int (nI s810), .ref m0], M1)) rfl rfl rfl ?_
                      refine pl_call (a := [.ref m0, .int (nI s810), .int 1]) (rest := []) rfl rfl rfl (rd_unq1 (tx := tx) (cN := cN) (A := A) (s := s810) (l := (tX f n E (by2 f (p + 2)))) hR1 hY1 (q116_s)) (fun v811 M812 q813 => ?_)
                      obtain ⟨rfl, rfl⟩ := q813
                      show pl _ _ _ (123, [(0, .ref m0), (1, .int (nI p)), (2, .int (nI (by2 f pF))), (3, .int (nI f0)), (4, .int (nI k)), (5, .int (nI (by2 f p)))], [.int (nI (unqN (tX f n E (by2 f (p + 2)))))], M1) _
                      refine ps_if (S1 := (136, [(0, .ref m0), (1, .int (nI p)), (2, .int (nI (by2 f pF))), (3, .int (nI f0)), (4, .int (nI k)), (5, .int (nI (by2 f p)))], [], M1)) (S2 := (126, [(0, .ref m0), (1, .int (nI p))], [], M1)) rfl rfl rfl (fun c_123 => ?_) (fun c_123 => ?_)
                      · have c_123 : ¬ (nI (unqN (tX f n E (by2 f (p + 2))))) = 0 := of_decide_eq_true c_123
                        have n_123 : ¬ (unqN (tX f n E (by2 f (p + 2))) = 0) := fun h9 => c_123 ((eq_nI (p := unqN (tX f n E (by2 f (p + 2)))) (n := 0) (Nat.lt_trans (le1_unq _) (by decide)) (by decide)).mpr h9)
                        refine ps_st (S' := (137, [(0, .ref m0), (1, .int (nI p)), (2, .int (nI (by2 f pF))), (3, .int (nI f0)), (4, .int (nI k)), (5, .int (nI (by2 f p)))], [.ref m0], M1)) rfl rfl rfl ?_
                        refine ps_st (S' := (138, [(0, .ref m0), (1, .int (nI p)), (2, .int (nI (by2 f pF))), (3, .int (nI f0)), (4, .int (nI k)), (5, .int (nI (by2 f p)))], [.ref m0, .ref m0], M1)) rfl rfl rfl ?_
                        refine ps_st (S' := (139, [(0, .ref m0), (1, .int (nI p)), (2, .int (nI (by2 f pF))), (3, .int (nI f0)), (4, .int (nI k)), (5, .int (nI (by2 f p)))], [.int (nI p), .ref m0, .ref m0], M1)) rfl rfl rfl ?_
                        refine ps_st (S' := (140, [(0, .ref m0), (1, .int (nI p)), (2, .int (nI (by2 f pF))), (3, .int (nI f0)), (4, .int (nI k)), (5, .int (nI (by2 f p)))], [.int 4, .int (nI p), .ref m0, .ref m0], M1)) rfl rfl rfl ?_
                        refine ps_st (S' := (141, [(0, .ref m0), (1, .int (nI p)), (2, .int (nI (by2 f pF))), (3, .int (nI f0)), (4, .int (nI k)), (5, .int (nI (by2 f p)))], [.int ((nI p) + 4), .ref m0, .ref m0], M1)) rfl rfl rfl ?_
                        rw [nI_add1 (p := p) (k := 4) (x := 4) rfl (by omega)]
                        show pl _ _ _ (_, [(0, .ref m0), (1, .int (nI p)), (2, .int (nI (by2 f pF))), (3, .int (nI f0)), (4, .int (nI k)), (5, .int (nI (by2 f p)))], [.int (nI (p + 4)), .ref m0, .ref m0], M1) _
                        refine pl_call (a := [.ref m0, .int (nI (p + 4))]) (rest := [.ref m0]) rfl rfl rfl (rd_u2 (n := n) (f := f) (p := (p + 4)) hR1 hF1 (by omega)) (fun v814 M815 q816 => ?_)
                        obtain ⟨rfl, rfl⟩ := q816
                        show pl _ _ _ (144, [(0, .ref m0), (1, .int (nI p)), (2, .int (nI (by2 f pF))), (3, .int (nI f0)), (4, .int (nI k)), (5, .int (nI (by2 f p)))], [.int (nI (by2 f (p + 4))), .ref m0], M1) _
                        have hu_141 := by2_lt f (p + 4)
                        refine pl_call (a := [.ref m0, .int (nI (by2 f (p + 4)))]) (rest := []) rfl rfl rfl (rd_tag (n := n) (f := f) (tx := tx) (cN := cN) (A := A) (N := N) (mj := mj) (E := E) (k := (by2 f (p + 4))) hR1 hl51 hl52 hl53 hF1 hY1 hP1 (hEP) (hN) (hmj) (by2_lt _ _)) (fun v817 M818 q819 => ?_)
                        obtain ⟨rfl, rfl⟩ := q819
                        show pl _ _ _ (147, [(0, .ref m0), (1, .int (nI p)), (2, .int (nI (by2 f pF))), (3, .int (nI f0)), (4, .int (nI k)), (5, .int (nI (by2 f p)))], [.int (nI (tg f E (by2 f (p + 4))))], M1) _
                        have htg_144 := tg_lt f E (by2 f (p + 4))
                        refine ps_st (S' := (148, [(0, .ref m0), (1, .int (nI p)), (2, .int (nI (by2 f pF))), (3, .int (nI f0)), (4, .int (nI k)), (5, .int (nI (by2 f p)))], [.int 1, .int (nI (tg f E (by2 f (p + 4))))], M1)) rfl rfl rfl ?_
                        refine ps_if2 (S1 := (169, [(0, .ref m0), (1, .int (nI p))], [], M1)) (S2 := (151, [(0, .ref m0), (1, .int (nI p)), (2, .int (nI (by2 f pF))), (3, .int (nI f0)), (4, .int (nI k)), (5, .int (nI (by2 f p)))], [], M1)) rfl rfl rfl (fun c_148 => ?_) (fun c_148 => ?_)
                        · have c_148 : ¬ (nI (tg f E (by2 f (p + 4)))) = 1 := of_decide_eq_true c_148
                          have n_148 : ¬ (tg f E (by2 f (p + 4)) = 1) := fun h9 => c_148 ((eq_nI (p := tg f E (by2 f (p + 4))) (n := 1) (Nat.lt_trans (tg_lt _ _ _) (by decide)) (by decide)).mpr h9)
                          refine ps_st (S' := (170, [(0, .ref m0), (1, .int (nI p))], [.ref m0], M1)) rfl rfl rfl ?_
                          refine ps_st (S' := (172, [(0, .ref m0), (1, .int (nI p))], [.int 21, .ref m0], M1)) rfl rfl rfl ?_
                          refine ps_st (S' := (173, [(0, .ref m0), (1, .int (nI p))], [.int (nI p), .int 21, .ref m0], M1)) rfl rfl rfl ?_
                          refine ps_st (S' := (174, [(0, .ref m0), (1, .int (nI p))], [.int 4, .int (nI p), .int 21, .ref m0], M1)) rfl rfl rfl ?_
                          refine ps_st (S' := (175, [(0, .ref m0), (1, .int (nI p))], [.int ((nI p) + 4), .int 21, .ref m0], M1)) rfl rfl rfl ?_
                          rw [nI_add1 (p := p) (k := 4) (x := 4) rfl (by omega)]
                          show pl _ _ _ (_, [(0, .ref m0), (1, .int (nI p))], [.int (nI (p + 4)), .int 21, .ref m0], M1) _
                          refine pl_call (a := [.ref m0, .int 21, .int (nI (p + 4))]) (rest := []) rfl rfl rfl (rd_wrong (x1 := 21) (x2 := (nI (p + 4))) hR1) (fun v820 M821 q822 => ?_)
                          obtain ⟨I823, R824, rfl, hR825, hI826, hX827, hi828, hi829⟩ := q822
                          have hi830 := (hI826 51 (by decide)).trans hl51
                          have hi831 := (hI826 52 (by decide)).trans hl52
                          have hi832 := (hI826 53 (by decide)).trans hl53
                          have hi833 := (hI826 58 (by decide)).trans hl58
                          have hi834 := (hI826 55 (by decide)).trans hl55
                          have hi835 := (hI826 25 (by decide)).trans hl25
                          have hF_836 := hF1.mono (cIx hI826 (by decide)) (cRx hX827 (by decide))
                          have hY_837 := hY1.mono (cIx hI826 (by decide)) (cRx hX827 (by decide))
                          have hP_838 := hP1.mono (cIx hI826 (by decide)) (cRx hX827 (by decide))
                          have hK_839 := hK1.mono (cIx hI826 (by decide)) (cRx hX827 (by decide))
                          have hN9_840 := hN91.mono (cIx hI826 (by decide)) (cRx hX827 (by decide))
                          have hEI841 := hEI1.tr hI826 (by decide)
                          have hER842 := hER1.tr hX827 (by decide)
                          show pl _ _ _ (178, [(0, .ref m0), (1, .int (nI p))], [.int 0], M821) _
                          exact ps_ret rfl rfl (Or.inr ⟨(21, p + 4), I823, R824, by
                              rw [← hs, flS_st (i := k) (by omega), ← hpk, fh_21 (by have e1 := ffl_0 cf (by2 f p); have e2 := sev_0 (by2 f p); have e3 := hall_80 (by2 f p); omega) (by omega) (by rw [tx_no (by omega)]; decide)], rfl, hR825, hEI841, hER842, hi828, hi829⟩)
                        · have c_148 : ¬ (¬ (nI (tg f E (by2 f (p + 4)))) = 1) := of_decide_eq_false c_148
                          have n_148 : tg f E (by2 f (p + 4)) = 1 := (eq_nI (p := tg f E (by2 f (p + 4))) (n := 1) (Nat.lt_trans (tg_lt _ _ _) (by decide)) (by decide)).mp (Decidable.not_not.mp c_148)
                          refine ps_st (S' := (152, [(0, .ref m0), (1, .int (nI p)), (2, .int (nI (by2 f pF))), (3, .int (nI f0)), (4, .int (nI k)), (5, .int (nI (by2 f p)))], [.ref m0], M1)) rfl rfl rfl ?_
                          refine ps_st (S' := (153, [(0, .ref m0), (1, .int (nI p)), (2, .int (nI (by2 f pF))), (3, .int (nI f0)), (4, .int (nI k)), (5, .int (nI (by2 f p)))], [.ref m0, .ref m0], M1)) rfl rfl rfl ?_
                          refine ps_st (S' := (154, [(0, .ref m0), (1, .int (nI p)), (2, .int (nI (by2 f pF))), (3, .int (nI f0)), (4, .int (nI k)), (5, .int (nI (by2 f p)))], [.ref m0, .ref m0, .ref m0], M1)) rfl rfl rfl ?_
                          refine ps_st (S' := (155, [(0, .ref m0), (1, .int (nI p)), (2, .int (nI (by2 f pF))), (3, .int (nI f0)), (4, .int (nI k)), (5, .int (nI (by2 f p)))], [.int (nI p), .ref m0, .ref m0, .ref m0], M1)) rfl rfl rfl ?_
                          refine ps_st (S' := (156, [(0, .ref m0), (1, .int (nI p)), (2, .int (nI (by2 f pF))), (3, .int (nI f0)), (4, .int (nI k)), (5, .int (nI (by2 f p)))], [.int 4, .int (nI p), .ref m0, .ref m0, .ref m0], M1)) rfl rfl rfl ?_
                          refine ps_st (S' := (157, [(0, .ref m0), (1, .int (nI p)), (2, .int (nI (by2 f pF))), (3, .int (nI f0)), (4, .int (nI k)), (5, .int (nI (by2 f p)))], [.int ((nI p) + 4), .ref m0, .ref m0, .ref m0], M1)) rfl rfl rfl ?_
                          rw [nI_add1 (p := p) (k := 4) (x := 4) rfl (by omega)]
                          show pl _ _ _ (_, [(0, .ref m0), (1, .int (nI p)), (2, .int (nI (by2 f pF))), (3, .int (nI f0)), (4, .int (nI k)), (5, .int (nI (by2 f p)))], [.int (nI (p + 4)), .ref m0, .ref m0, .ref m0], M1) _
                          refine pl_call (a := [.ref m0, .int (nI (p + 4))]) (rest := [.ref m0, .ref m0]) rfl rfl rfl (rd_u2 (n := n) (f := f) (p := (p + 4)) hR1 hF1 (by omega)) (fun v843 M844 q845 => ?_)
                          obtain ⟨rfl, rfl⟩ := q845
                          show pl _ _ _ (160, [(0, .ref m0), (1, .int (nI p)), (2, .int (nI (by2 f pF))), (3, .int (nI f0)), (4, .int (nI k)), (5, .int (nI (by2 f p)))], [.int (nI (by2 f (p + 4))), .ref m0, .ref m0], M1) _
                          have hu_157 := by2_lt f (p + 4)
                          refine pl_call (a := [.ref m0, .int (nI (by2 f (p + 4)))]) (rest := [.ref m0]) rfl rfl rfl (rd_symOf (n := n) (f := f) (tx := tx) (cN := cN) (A := A) (N := N) (mj := mj) (E := E) (k := (by2 f (p + 4))) hR1 hl51 hl52 hl53 hF1 hY1 hP1 (hEP) (hN) (hmj) (by omega)) (fun v846 M847 q848 => ?_)
                          obtain ⟨s849, q160_s, rfl, rfl⟩ := q848
                          show pl _ _ _ (163, [(0, .ref m0), (1, .int (nI p)), (2, .int (nI (by2 f pF))), (3, .int (nI f0)), (4, .int (nI k)), (5, .int (nI (by2 f p)))], [.int (nI s849), .ref m0], M1) _
                          have hsl_160 := q160_s.1
                          have htl_160 := hY1.1.2.2.1
                          refine pl_call (a := [.ref m0, .int (nI s849)]) (rest := []) rfl rfl rfl (rd_isField (tx := tx) (cN := cN) (A := A) (s := s849) (l := (tX f n E (by2 f (p + 4)))) hR1 hY1 (q160_s)) (fun v850 M851 q852 => ?_)
                          obtain ⟨rfl, rfl⟩ := q852
                          show pl _ _ _ (166, [(0, .ref m0), (1, .int (nI p)), (2, .int (nI (by2 f pF))), (3, .int (nI f0)), (4, .int (nI k)), (5, .int (nI (by2 f p)))], [.int (nI (fldN (tX f n E (by2 f (p + 4)))))], M1) _
                          refine ps_if (S1 := (179, [(0, .ref m0), (1, .int (nI p)), (2, .int (nI (by2 f pF))), (3, .int (nI f0)), (4, .int (nI k)), (5, .int (nI (by2 f p)))], [], M1)) (S2 := (169, [(0, .ref m0), (1, .int (nI p))], [], M1)) rfl rfl rfl (fun c_166 => ?_) (fun c_166 => ?_)
                          · have c_166 : ¬ (nI (fldN (tX f n E (by2 f (p + 4))))) = 0 := of_decide_eq_true c_166
                            have n_166 : ¬ (fldN (tX f n E (by2 f (p + 4))) = 0) := fun h9 => c_166 ((eq_nI (p := fldN (tX f n E (by2 f (p + 4)))) (n := 0) (Nat.lt_trans (le1_fld _) (by decide)) (by decide)).mpr h9)
                            refine ps_st (S' := (180, [(0, .ref m0), (1, .int (nI p)), (2, .int (nI (by2 f pF))), (3, .int (nI f0)), (4, .int (nI k)), (5, .int (nI (by2 f p)))], [.ref m0], M1)) rfl rfl rfl ?_
                            refine pr_int (j := 25) (S' := (183, [(0, .ref m0), (1, .int (nI p)), (2, .int (nI (by2 f pF))), (3, .int (nI f0)), (4, .int (nI k)), (5, .int (nI (by2 f p)))], [.int (nI (f0 + k))], M1)) rfl hR1 rfl hl25 rfl ?_
                            refine ps_st (S' := (185, [(6, .int (nI (f0 + k))), (0, .ref m0), (1, .int (nI p)), (2, .int (nI (by2 f pF))), (3, .int (nI f0)), (4, .int (nI k)), (5, .int (nI (by2 f p)))], [], M1)) rfl rfl rfl ?_
                            refine ps_st (S' := (186, [(6, .int (nI (f0 + k))), (0, .ref m0), (1, .int (nI p)), (2, .int (nI (by2 f pF))), (3, .int (nI f0)), (4, .int (nI k)), (5, .int (nI (by2 f p)))], [.ref m0], M1)) rfl rfl rfl ?_
                            refine pr_ref (j := 27) (S' := (189, [(6, .int (nI (f0 + k))), (0, .ref m0), (1, .int (nI p)), (2, .int (nI (by2 f pF))), (3, .int (nI f0)), (4, .int (nI k)), (5, .int (nI (by2 f p)))], [.ref (q 27)], M1)) rfl hR1 rfl rfl ?_
                            refine ps_st (S' := (191, [(6, .int (nI (f0 + k))), (0, .ref m0), (1, .int (nI p)), (2, .int (nI (by2 f pF))), (3, .int (nI f0)), (4, .int (nI k)), (5, .int (nI (by2 f p)))], [.int (nI (f0 + k)), .ref (q 27)], M1)) rfl rfl rfl ?_
                            refine ps_st (S' := (193, [(6, .int (nI (f0 + k))), (0, .ref m0), (1, .int (nI p)), (2, .int (nI (by2 f pF))), (3, .int (nI f0)), (4, .int (nI k)), (5, .int (nI (by2 f p)))], [.int (nI (by2 f p)), .int (nI (f0 + k)), .ref (q 27)], M1)) rfl rfl rfl ?_
                            refine pr_st (a := 27) (j := f0 + k) rfl hR1 rfl (by omega) (fun M853 R854 i1_193 hR855 hS856 => ?_)
                            have hF_857 := hF1.mono (fun _ _ => rfl) (rRx hS856 (by decide))
                            have hY_858 := hY1.mono (fun _ _ => rfl) (rRx hS856 (by decide))
                            have hP_859 := hP1.mono (fun _ _ => rfl) (rRx hS856 (by decide))
                            have hK_860 := hK1.mono (fun _ _ => rfl) (rRx hS856 (by decide))
                            have hN9_861 := hN91.mono (fun _ _ => rfl) (rRx hS856 (by decide))
                            have hER862 := hER1.st hS856 (by decide)
                            show pl _ _ _ (194, [(6, .int (nI (f0 + k))), (0, .ref m0), (1, .int (nI p)), (2, .int (nI (by2 f pF))), (3, .int (nI f0)), (4, .int (nI k)), (5, .int (nI (by2 f p)))], [], M853) _
                            have c27_863 : CE 27 (f0 + k) (nI (by2 f p)) I1 R854 := CE.st hS856
                            refine ps_st (S' := (195, [(6, .int (nI (f0 + k))), (0, .ref m0), (1, .int (nI p)), (2, .int (nI (by2 f pF))), (3, .int (nI f0)), (4, .int (nI k)), (5, .int (nI (by2 f p)))], [.ref m0], M853)) rfl rfl rfl ?_
                            refine pr_ref (j := 28) (S' := (198, [(6, .int (nI (f0 + k))), (0, .ref m0), (1, .int (nI p)), (2, .int (nI (by2 f pF))), (3, .int (nI f0)), (4, .int (nI k)), (5, .int (nI (by2 f p)))], [.ref (q 28)], M853)) rfl hR855 rfl rfl ?_
                            refine ps_st (S' := (200, [(6, .int (nI (f0 + k))), (0, .ref m0), (1, .int (nI p)), (2, .int (nI (by2 f pF))), (3, .int (nI f0)), (4, .int (nI k)), (5, .int (nI (by2 f p)))], [.int (nI (f0 + k)), .ref (q 28)], M853)) rfl rfl rfl ?_
                            refine ps_st (S' := (201, [(6, .int (nI (f0 + k))), (0, .ref m0), (1, .int (nI p)), (2, .int (nI (by2 f pF))), (3, .int (nI f0)), (4, .int (nI k)), (5, .int (nI (by2 f p)))], [.ref m0, .int (nI (f0 + k)), .ref (q 28)], M853)) rfl rfl rfl ?_
                            refine ps_st (S' := (202, [(6, .int (nI (f0 + k))), (0, .ref m0), (1, .int (nI p)), (2, .int (nI (by2 f pF))), (3, .int (nI f0)), (4, .int (nI k)), (5, .int (nI (by2 f p)))], [.ref m0, .ref m0, .int (nI (f0 + k)), .ref (q 28)], M853)) rfl rfl rfl ?_
                            refine ps_st (S' := (203, [(6, .int (nI (f0 + k))), (0, .ref m0), (1, .int (nI p)), (2, .int (nI (by2 f pF))), (3, .int (nI f0)), (4, .int (nI k)), (5, .int (nI (by2 f p)))], [.int (nI p), .ref m0, .ref m0, .int (nI (f0 + k)), .ref (q 28)], M853)) rfl rfl rfl ?_
                            refine ps_st (S' := (204, [(6, .int (nI (f0 + k))), (0, .ref m0), (1, .int (nI p)), (2, .int (nI (by2 f pF))), (3, .int (nI f0)), (4, .int (nI k)), (5, .int (nI (by2 f p)))], [.int 2, .int (nI p), .ref m0, .ref m0, .int (nI (f0 + k)), .ref (q 28)], M853)) rfl rfl rfl ?_
                            refine ps_st (S' := (205, [(6, .int (nI (f0 + k))), (0, .ref m0), (1, .int (nI p)), (2, .int (nI (by2 f pF))), (3, .int (nI f0)), (4, .int (nI k)), (5, .int (nI (by2 f p)))], [.int ((nI p) + 2), .ref m0, .ref m0, .int (nI (f0 + k)), .ref (q 28)], M853)) rfl rfl rfl ?_
                            rw [nI_add1 (p := p) (k := 2) (x := 2) rfl (by omega)]
                            show pl _ _ _ (_, [(6, .int (nI (f0 + k))), (0, .ref m0), (1, .int (nI p)), (2, .int (nI (by2 f pF))), (3, .int (nI f0)), (4, .int (nI k)), (5, .int (nI (by2 f p)))], [.int (nI (p + 2)), .ref m0, .ref m0, .int (nI (f0 + k)), .ref (q 28)], M853) _
                            refine pl_call (a := [.ref m0, .int (nI (p + 2))]) (rest := [.ref m0, .int (nI (f0 + k)), .ref (q 28)]) rfl rfl rfl (rd_u2 (n := n) (f := f) (p := (p + 2)) hR855 hF_857 (by omega)) (fun v864 M865 q866 => ?_)
                            obtain ⟨rfl, rfl⟩ := q866
                            show pl _ _ _ (208, [(6, .int (nI (f0 + k))), (0, .ref m0), (1, .int (nI p)), (2, .int (nI (by2 f pF))), (3, .int (nI f0)), (4, .int (nI k)), (5, .int (nI (by2 f p)))], [.int (nI (by2 f (p + 2))), .ref m0, .int (nI (f0 + k)), .ref (q 28)], M853) _
                            have hu_205 := by2_lt f (p + 2)
                            refine pl_call (a := [.ref m0, .int (nI (by2 f (p + 2)))]) (rest := [.int (nI (f0 + k)), .ref (q 28)]) rfl rfl rfl (rd_symOf (n := n) (f := f) (tx := tx) (cN := cN) (A := A) (N := N) (mj := mj) (E := E) (k := (by2 f (p + 2))) hR855 hl51 hl52 hl53 hF_857 hY_858 hP_859 (hEP) (hN) (hmj) (by omega)) (fun v867 M868 q869 => ?_)
                            obtain ⟨s870, q208_s, rfl, rfl⟩ := q869
                            show pl _ _ _ (211, [(6, .int (nI (f0 + k))), (0, .ref m0), (1, .int (nI p)), (2, .int (nI (by2 f pF))), (3, .int (nI f0)), (4, .int (nI k)), (5, .int (nI (by2 f p)))], [.int (nI s870), .int (nI (f0 + k)), .ref (q 28)], M853) _
                            have hsl_208 := q208_s.1
                            have htl_208 := hY_858.1.2.2.1
                            refine pr_st (a := 28) (j := f0 + k) rfl hR855 rfl (by omega) (fun M871 R872 i1_211 hR873 hS874 => ?_)
                            have hF_875 := hF_857.mono (fun _ _ => rfl) (rRx hS874 (by decide))
                            have hY_876 := hY_858.mono (fun _ _ => rfl) (rRx hS874 (by decide))
                            have hP_877 := hP_859.mono (fun _ _ => rfl) (rRx hS874 (by decide))
                            have hK_878 := hK_860.mono (fun _ _ => rfl) (rRx hS874 (by decide))
                            have c27_879 := c27_863.mono (fun _ _ => rfl) (rRx hS874 (by decide))
                            have hER880 := hER862.st hS874 (by decide)
                            show pl _ _ _ (212, [(6, .int (nI (f0 + k))), (0, .ref m0), (1, .int (nI p)), (2, .int (nI (by2 f pF))), (3, .int (nI f0)), (4, .int (nI k)), (5, .int (nI (by2 f p)))], [], M871) _
                            have c28_881 : CE 28 (f0 + k) (nI s870) I1 R872 := CE.st hS874
                            have hN9_882 := FN.st (I' := I1) hN9_861 hS874 rfl
                            refine ps_st (S' := (213, [(6, .int (nI (f0 + k))), (0, .ref m0), (1, .int (nI p)), (2, .int (nI (by2 f pF))), (3, .int (nI f0)), (4, .int (nI k)), (5, .int (nI (by2 f p)))], [.ref m0], M871)) rfl rfl rfl ?_
                            refine pr_ref (j := 29) (S' := (216, [(6, .int (nI (f0 + k))), (0, .ref m0), (1, .int (nI p)), (2, .int (nI (by2 f pF))), (3, .int (nI f0)), (4, .int (nI k)), (5, .int (nI (by2 f p)))], [.ref (q 29)], M871)) rfl hR873 rfl rfl ?_
                            refine ps_st (S' := (218, [(6, .int (nI (f0 + k))), (0, .ref m0), (1, .int (nI p)), (2, .int (nI (by2 f pF))), (3, .int (nI f0)), (4, .int (nI k)), (5, .int (nI (by2 f p)))], [.int (nI (f0 + k)), .ref (q 29)], M871)) rfl rfl rfl ?_
                            refine ps_st (S' := (219, [(6, .int (nI (f0 + k))), (0, .ref m0), (1, .int (nI p)), (2, .int (nI (by2 f pF))), (3, .int (nI f0)), (4, .int (nI k)), (5, .int (nI (by2 f p)))], [.ref m0, .int (nI (f0 + k)), .ref (q 29)], M871)) rfl rfl rfl ?_
                            refine ps_st (S' := (220, [(6, .int (nI (f0 + k))), (0, .ref m0), (1, .int (nI p)), (2, .int (nI (by2 f pF))), (3, .int (nI f0)), (4, .int (nI k)), (5, .int (nI (by2 f p)))], [.ref m0, .ref m0, .int (nI (f0 + k)), .ref (q 29)], M871)) rfl rfl rfl ?_
                            refine ps_st (S' := (221, [(6, .int (nI (f0 + k))), (0, .ref m0), (1, .int (nI p)), (2, .int (nI (by2 f pF))), (3, .int (nI f0)), (4, .int (nI k)), (5, .int (nI (by2 f p)))], [.int (nI p), .ref m0, .ref m0, .int (nI (f0 + k)), .ref (q 29)], M871)) rfl rfl rfl ?_
                            refine ps_st (S' := (222, [(6, .int (nI (f0 + k))), (0, .ref m0), (1, .int (nI p)), (2, .int (nI (by2 f pF))), (3, .int (nI f0)), (4, .int (nI k)), (5, .int (nI (by2 f p)))], [.int 4, .int (nI p), .ref m0, .ref m0, .int (nI (f0 + k)), .ref (q 29)], M871)) rfl rfl rfl ?_
                            refine ps_st (S' := (223, [(6, .int (nI (f0 + k))), (0, .ref m0), (1, .int (nI p)), (2, .int (nI (by2 f pF))), (3, .int (nI f0)), (4, .int (nI k)), (5, .int (nI (by2 f p)))], [.int ((nI p) + 4), .ref m0, .ref m0, .int (nI (f0 + k)), .ref (q 29)], M871)) rfl rfl rfl ?_
                            rw [nI_add1 (p := p) (k := 4) (x := 4) rfl (by omega)]
                            show pl _ _ _ (_, [(6, .int (nI (f0 + k))), (0, .ref m0), (1, .int (nI p)), (2, .int (nI (by2 f pF))), (3, .int (nI f0)), (4, .int (nI k)), (5, .int (nI (by2 f p)))], [.int (nI (p + 4)), .ref m0, .ref m0, .int (nI (f0 + k)), .ref (q 29)], M871) _
                            refine pl_call (a := [.ref m0, .int (nI (p + 4))]) (rest := [.ref m0, .int (nI (f0 + k)), .ref (q 29)]) rfl rfl rfl (rd_u2 (n := n) (f := f) (p := (p + 4)) hR873 hF_875 (by omega)) (fun v883 M884 q885 => ?_)
                            obtain ⟨rfl, rfl⟩ := q885
                            show pl _ _ _ (226, [(6, .int (nI (f0 + k))), (0, .ref m0), (1, .int (nI p)), (2, .int (nI (by2 f pF))), (3, .int (nI f0)), (4, .int (nI k)), (5, .int (nI (by2 f p)))], [.int (nI (by2 f (p + 4))), .ref m0, .int (nI (f0 + k)), .ref (q 29)], M871) _
                            have hu_223 := by2_lt f (p + 4)
                            refine pl_call (a := [.ref m0, .int (nI (by2 f (p + 4)))]) (rest := [.int (nI (f0 + k)), .ref (q 29)]) rfl rfl rfl (rd_symOf (n := n) (f := f) (tx := tx) (cN := cN) (A := A) (N := N) (mj := mj) (E := E) (k := (by2 f (p + 4))) hR873 hl51 hl52 hl53 hF_875 hY_876 hP_877 (hEP) (hN) (hmj) (by omega)) (fun v886 M887 q888 => ?_)
                            obtain ⟨s889, q226_s, rfl, rfl⟩ := q888
                            show pl _ _ _ (229, [(6, .int (nI (f0 + k))), (0, .ref m0), (1, .int (nI p)), (2, .int (nI (by2 f pF))), (3, .int (nI f0)), (4, .int (nI k)), (5, .int (nI (by2 f p)))], [.int (nI s889), .int (nI (f0 + k)), .ref (q 29)], M871) _
                            have hsl_226 := q226_s.1
                            have htl_226 := hY_876.1.2.2.1
                            refine pr_st (a := 29) (j := f0 + k) rfl hR873 rfl (by omega) (fun M890 R891 i1_229 hR892 hS893 => ?_)
                            have hF_894 := hF_875.mono (fun _ _ => rfl) (rRx hS893 (by decide))
                            have hY_895 := hY_876.mono (fun _ _ => rfl) (rRx hS893 (by decide))
                            have hP_896 := hP_877.mono (fun _ _ => rfl) (rRx hS893 (by decide))
                            have hK_897 := hK_878.mono (fun _ _ => rfl) (rRx hS893 (by decide))
                            have c27_898 := c27_879.mono (fun _ _ => rfl) (rRx hS893 (by decide))
                            have c28_899 := c28_881.mono (fun _ _ => rfl) (rRx hS893 (by decide))
                            have hER900 := hER880.st hS893 (by decide)
                            show pl _ _ _ (230, [(6, .int (nI (f0 + k))), (0, .ref m0), (1, .int (nI p)), (2, .int (nI (by2 f pF))), (3, .int (nI f0)), (4, .int (nI k)), (5, .int (nI (by2 f p)))], [], M890) _
                            have c29_901 : CE 29 (f0 + k) (nI s889) I1 R891 := CE.st hS893
                            have hN9_902 := FN.st (I' := I1) hN9_882 hS893 rfl
                            refine ps_st (S' := (231, [(6, .int (nI (f0 + k))), (0, .ref m0), (1, .int (nI p)), (2, .int (nI (by2 f pF))), (3, .int (nI f0)), (4, .int (nI k)), (5, .int (nI (by2 f p)))], [.ref m0], M890)) rfl rfl rfl ?_
                            refine pr_ref (j := 30) (S' := (234, [(6, .int (nI (f0 + k))), (0, .ref m0), (1, .int (nI p)), (2, .int (nI (by2 f pF))), (3, .int (nI f0)), (4, .int (nI k)), (5, .int (nI (by2 f p)))], [.ref (q 30)], M890)) rfl hR892 rfl rfl ?_
                            refine ps_st (S' := (236, [(6, .int (nI (f0 + k))), (0, .ref m0), (1, .int (nI p)), (2, .int (nI (by2 f pF))), (3, .int (nI f0)), (4, .int (nI k)), (5, .int (nI (by2 f p)))], [.int (nI (f0 + k)), .ref (q 30)], M890)) rfl rfl rfl ?_
                            refine ps_st (S' := (237, [(6, .int (nI (f0 + k))), (0, .ref m0), (1, .int (nI p)), (2, .int (nI (by2 f pF))), (3, .int (nI f0)), (4, .int (nI k)), (5, .int (nI (by2 f p)))], [.int 0, .int (nI (f0 + k)), .ref (q 30)], M890)) rfl rfl rfl ?_
                            refine pr_st (a := 30) (j := f0 + k) rfl hR892 rfl (by omega) (fun M903 R904 i1_237 hR905 hS906 => ?_)
                            have hF_907 := hF_894.mono (fun _ _ => rfl) (rRx hS906 (by decide))
                            have hY_908 := hY_895.mono (fun _ _ => rfl) (rRx hS906 (by decide))
                            have hP_909 := hP_896.mono (fun _ _ => rfl) (rRx hS906 (by decide))
                            have hK_910 := hK_897.mono (fun _ _ => rfl) (rRx hS906 (by decide))
                            have c27_911 := c27_898.mono (fun _ _ => rfl) (rRx hS906 (by decide))
                            have c28_912 := c28_899.mono (fun _ _ => rfl) (rRx hS906 (by decide))
                            have c29_913 := c29_901.mono (fun _ _ => rfl) (rRx hS906 (by decide))
                            have hN9_914 := hN9_902.mono (fun _ _ => rfl) (rRx hS906 (by decide))
                            have hER915 := hER900.st hS906 (by decide)
                            show pl _ _ _ (238, [(6, .int (nI (f0 + k))), (0, .ref m0), (1, .int (nI p)), (2, .int (nI (by2 f pF))), (3, .int (nI f0)), (4, .int (nI k)), (5, .int (nI (by2 f p)))], [], M903) _
                            refine ps_st (S' := (239, [(6, .int (nI (f0 + k))), (0, .ref m0), (1, .int (nI p)), (2, .int (nI (by2 f pF))), (3, .int (nI f0)), (4, .int (nI k)), (5, .int (nI (by2 f p)))], [.ref m0], M903)) rfl rfl rfl ?_
                            refine pr_ref (j := 31) (S' := (242, [(6, .int (nI (f0 + k))), (0, .ref m0), (1, .int (nI p)), (2, .int (nI (by2 f pF))), (3, .int (nI f0)), (4, .int (nI k)), (5, .int (nI (by2 f p)))], [.ref (q 31)], M903)) rfl hR905 rfl rfl ?_
                            refine ps_st (S' := (244, [(6, .int (nI (f0 + k))), (0, .ref m0), (1, .int (nI p)), (2, .int (nI (by2 f pF))), (3, .int (nI f0)), (4, .int (nI k)), (5, .int (nI (by2 f p)))], [.int (nI (f0 + k)), .ref (q 31)], M903)) rfl rfl rfl ?_
                            refine ps_st (S' := (245, [(6, .int (nI (f0 + k))), (0, .ref m0), (1, .int (nI p)), (2, .int (nI (by2 f pF))), (3, .int (nI f0)), (4, .int (nI k)), (5, .int (nI (by2 f p)))], [.int 0, .int (nI (f0 + k)), .ref (q 31)], M903)) rfl rfl rfl ?_
                            refine pr_st (a := 31) (j := f0 + k) rfl hR905 rfl (by omega) (fun M916 R917 i1_245 hR918 hS919 => ?_)
                            have hF_920 := hF_907.mono (fun _ _ => rfl) (rRx hS919 (by decide))
                            have hY_921 := hY_908.mono (fun _ _ => rfl) (rRx hS919 (by decide))
                            have hP_922 := hP_909.mono (fun _ _ => rfl) (rRx hS919 (by decide))
                            have hK_923 := hK_910.mono (fun _ _ => rfl) (rRx hS919 (by decide))
                            have c27_924 := c27_911.mono (fun _ _ => rfl) (rRx hS919 (by decide))
                            have c28_925 := c28_912.mono (fun _ _ => rfl) (rRx hS919 (by decide))
                            have c29_926 := c29_913.mono (fun _ _ => rfl) (rRx hS919 (by decide))
                            have hN9_927 := hN9_914.mono (fun _ _ => rfl) (rRx hS919 (by decide))
                            have hER928 := hER915.st hS919 (by decide)
                            show pl _ _ _ (246, [(6, .int (nI (f0 + k))), (0, .ref m0), (1, .int (nI p)), (2, .int (nI (by2 f pF))), (3, .int (nI f0)), (4, .int (nI k)), (5, .int (nI (by2 f p)))], [], M916) _
                            refine ps_st (S' := (247, [(6, .int (nI (f0 + k))), (0, .ref m0), (1, .int (nI p)), (2, .int (nI (by2 f pF))), (3, .int (nI f0)), (4, .int (nI k)), (5, .int (nI (by2 f p)))], [.ref m0], M916)) rfl rfl rfl ?_
                            refine pr_ref (j := 32) (S' := (250, [(6, .int (nI (f0 + k))), (0, .ref m0), (1, .int (nI p)), (2, .int (nI (by2 f pF))), (3, .int (nI f0)), (4, .int (nI k)), (5, .int (nI (by2 f p)))], [.ref (q 32)], M916)) rfl hR918 rfl rfl ?_
                            refine ps_st (S' := (252, [(6, .int (nI (f0 + k))), (0, .ref m0), (1, .int (nI p)), (2, .int (nI (by2 f pF))), (3, .int (nI f0)), (4, .int (nI k)), (5, .int (nI (by2 f p)))], [.int (nI (f0 + k)), .ref (q 32)], M916)) rfl rfl rfl ?_
                            refine ps_st (S' := (253, [(6, .int (nI (f0 + k))), (0, .ref m0), (1, .int (nI p)), (2, .int (nI (by2 f pF))), (3, .int (nI f0)), (4, .int (nI k)), (5, .int (nI (by2 f p)))], [.ref m0, .int (nI (f0 + k)), .ref (q 32)], M916)) rfl rfl rfl ?_
                            refine ps_st (S' := (254, [(6, .int (nI (f0 + k))), (0, .ref m0), (1, .int (nI p)), (2, .int (nI (by2 f pF))), (3, .int (nI f0)), (4, .int (nI k)), (5, .int (nI (by2 f p)))], [.int (nI p), .ref m0, .int (nI (f0 + k)), .ref (q 32)], M916)) rfl rfl rfl ?_
                            refine ps_st (S' := (255, [(6, .int (nI (f0 + k))), (0, .ref m0), (1, .int (nI p)), (2, .int (nI (by2 f pF))), (3, .int (nI f0)), (4, .int (nI k)), (5, .int (nI (by2 f p)))], [.int 2, .int (nI p), .ref m0, .int (nI (f0 + k)), .ref (q 32)], M916)) rfl rfl rfl ?_
                            refine ps_st (S' := (256, [(6, .int (nI (f0 + k))), (0, .ref m0), (1, .int (nI p)), (2, .int (nI (by2 f pF))), (3, .int (nI f0)), (4, .int (nI k)), (5, .int (nI (by2 f p)))], [.int ((nI p) + 2), .ref m0, .int (nI (f0 + k)), .ref (q 32)], M916)) rfl rfl rfl ?_
                            rw [nI_add1 (p := p) (k := 2) (x := 2) rfl (by omega)]
                            show pl _ _ _ (_, [(6, .int (nI (f0 + k))), (0, .ref m0), (1, .int (nI p)), (2, .int (nI (by2 f pF))), (3, .int (nI f0)), (4, .int (nI k)), (5, .int (nI (by2 f p)))], [.int (nI (p + 2)), .ref m0, .int (nI (f0 + k)), .ref (q 32)], M916) _
                            refine pl_call (a := [.ref m0, .int (nI (p + 2))]) (rest := [.int (nI (f0 + k)), .ref (q 32)]) rfl rfl rfl (rd_u2 (n := n) (f := f) (p := (p + 2)) hR918 hF_920 (by omega)) (fun v929 M930 q931 => ?_)
                            obtain ⟨rfl, rfl⟩ := q931
                            show pl _ _ _ (259, [(6, .int (nI (f0 + k))), (0, .ref m0), (1, .int (nI p)), (2, .int (nI (by2 f pF))), (3, .int (nI f0)), (4, .int (nI k)), (5, .int (nI (by2 f p)))], [.int (nI (by2 f (p + 2))), .int (nI (f0 + k)), .ref (q 32)], M916) _
                            have hu_256 := by2_lt f (p + 2)
                            refine pr_st (a := 32) (j := f0 + k) rfl hR918 rfl (by omega) (fun M932 R933 i1_259 hR934 hS935 => ?_)
                            have hF_936 := hF_920.mono (fun _ _ => rfl) (rRx hS935 (by decide))
                            have hY_937 := hY_921.mono (fun _ _ => rfl) (rRx hS935 (by decide))
                            have hP_938 := hP_922.mono (fun _ _ => rfl) (rRx hS935 (by decide))
                            have hK_939 := hK_923.mono (fun _ _ => rfl) (rRx hS935 (by decide))
                            have c27_940 := c27_924.mono (fun _ _ => rfl) (rRx hS935 (by decide))
                            have c28_941 := c28_925.mono (fun _ _ => rfl) (rRx hS935 (by decide))
                            have c29_942 := c29_926.mono (fun _ _ => rfl) (rRx hS935 (by decide))
                            have hN9_943 := hN9_927.mono (fun _ _ => rfl) (rRx hS935 (by decide))
                            have hER944 := hER928.st hS935 (by decide)
                            show pl _ _ _ (260, [(6, .int (nI (f0 + k))), (0, .ref m0), (1, .int (nI p)), (2, .int (nI (by2 f pF))), (3, .int (nI f0)), (4, .int (nI k)), (5, .int (nI (by2 f p)))], [], M932) _
                            refine ps_st (S' := (261, [(6, .int (nI (f0 + k))), (0, .ref m0), (1, .int (nI p)), (2, .int (nI (by2 f pF))), (3, .int (nI f0)), (4, .int (nI k)), (5, .int (nI (by2 f p)))], [.ref m0], M932)) rfl rfl rfl ?_
                            refine pr_ref (j := 33) (S' := (264, [(6, .int (nI (f0 + k))), (0, .ref m0), (1, .int (nI p)), (2, .int (nI (by2 f pF))), (3, .int (nI f0)), (4, .int (nI k)), (5, .int (nI (by2 f p)))], [.ref (q 33)], M932)) rfl hR934 rfl rfl ?_
                            refine ps_st (S' := (266, [(6, .int (nI (f0 + k))), (0, .ref m0), (1, .int (nI p)), (2, .int (nI (by2 f pF))), (3, .int (nI f0)), (4, .int (nI k)), (5, .int (nI (by2 f p)))], [.int (nI (f0 + k)), .ref (q 33)], M932)) rfl rfl rfl ?_
                            refine ps_st (S' := (267, [(6, .int (nI (f0 + k))), (0, .ref m0), (1, .int (nI p)), (2, .int (nI (by2 f pF))), (3, .int (nI f0)), (4, .int (nI k)), (5, .int (nI (by2 f p)))], [.ref m0, .int (nI (f0 + k)), .ref (q 33)], M932)) rfl rfl rfl ?_
                            refine ps_st (S' := (268, [(6, .int (nI (f0 + k))), (0, .ref m0), (1, .int (nI p)), (2, .int (nI (by2 f pF))), (3, .int (nI f0)), (4, .int (nI k)), (5, .int (nI (by2 f p)))], [.int (nI p), .ref m0, .int (nI (f0 + k)), .ref (q 33)], M932)) rfl rfl rfl ?_
                            refine ps_st (S' := (269, [(6, .int (nI (f0 + k))), (0, .ref m0), (1, .int (nI p)), (2, .int (nI (by2 f pF))), (3, .int (nI f0)), (4, .int (nI k)), (5, .int (nI (by2 f p)))], [.int 4, .int (nI p), .ref m0, .int (nI (f0 + k)), .ref (q 33)], M932)) rfl rfl rfl ?_
                            refine ps_st (S' := (270, [(6, .int (nI (f0 + k))), (0, .ref m0), (1, .int (nI p)), (2, .int (nI (by2 f pF))), (3, .int (nI f0)), (4, .int (nI k)), (5, .int (nI (by2 f p)))], [.int ((nI p) + 4), .ref m0, .int (nI (f0 + k)), .ref (q 33)], M932)) rfl rfl rfl ?_
                            rw [nI_add1 (p := p) (k := 4) (x := 4) rfl (by omega)]
                            show pl _ _ _ (_, [(6, .int (nI (f0 + k))), (0, .ref m0), (1, .int (nI p)), (2, .int (nI (by2 f pF))), (3, .int (nI f0)), (4, .int (nI k)), (5, .int (nI (by2 f p)))], [.int (nI (p + 4)), .ref m0, .int (nI (f0 + k)), .ref (q 33)], M932) _
                            refine pl_call (a := [.ref m0, .int (nI (p + 4))]) (rest := [.int (nI (f0 + k)), .ref (q 33)]) rfl rfl rfl (rd_u2 (n := n) (f := f) (p := (p + 4)) hR934 hF_936 (by omega)) (fun v945 M946 q947 => ?_)
                            obtain ⟨rfl, rfl⟩ := q947
                            show pl _ _ _ (273, [(6, .int (nI (f0 + k))), (0, .ref m0), (1, .int (nI p)), (2, .int (nI (by2 f pF))), (3, .int (nI f0)), (4, .int (nI k)), (5, .int (nI (by2 f p)))], [.int (nI (by2 f (p + 4))), .int (nI (f0 + k)), .ref (q 33)], M932) _
                            have hu_270 := by2_lt f (p + 4)
                            refine pr_st (a := 33) (j := f0 + k) rfl hR934 rfl (by omega) (fun M948 R949 i1_273 hR950 hS951 => ?_)
                            have hF_952 := hF_936.mono (fun _ _ => rfl) (rRx hS951 (by decide))
                            have hY_953 := hY_937.mono (fun _ _ => rfl) (rRx hS951 (by decide))
                            have hP_954 := hP_938.mono (fun _ _ => rfl) (rRx hS951 (by decide))
                            have hK_955 := hK_939.mono (fun _ _ => rfl) (rRx hS951 (by decide))
                            have c27_956 := c27_940.mono (fun _ _ => rfl) (rRx hS951 (by decide))
                            have c28_957 := c28_941.mono (fun _ _ => rfl) (rRx hS951 (by decide))
                            have c29_958 := c29_942.mono (fun _ _ => rfl) (rRx hS951 (by decide))
                            have hN9_959 := hN9_943.mono (fun _ _ => rfl) (rRx hS951 (by decide))
                            have hER960 := hER944.st hS951 (by decide)
                            show pl _ _ _ (274, [(6, .int (nI (f0 + k))), (0, .ref m0), (1, .int (nI p)), (2, .int (nI (by2 f pF))), (3, .int (nI f0)), (4, .int (nI k)), (5, .int (nI (by2 f p)))], [], M948) _
                            refine ps_st (S' := (275, [(6, .int (nI (f0 + k))), (0, .ref m0), (1, .int (nI p)), (2, .int (nI (by2 f pF))), (3, .int (nI f0)), (4, .int (nI k)), (5, .int (nI (by2 f p)))], [.int (nI f0)], M948)) rfl rfl rfl ?_
                            refine ps_st (S' := (277, [(0, .ref m0), (1, .int (nI p)), (2, .int (nI (by2 f pF))), (3, .int (nI f0)), (4, .int (nI k)), (6, .int (nI (f0 + k))), (7, .int (nI f0))], [], M948)) rfl rfl rfl ?_
                            have h19 : ¬ fflN cf (by2 f p) = 0 := by
                              have e1 := ffl_0 cf (by2 f p)
                              have e2 := sev_0 (by2 f p)
                              have e3 := hall_80 (by2 f p)
                              omega
                            exact ih.2 (k) (p) (0) (s870) (s889) M948 I1 R949 hR950 hEI1 hER960 hl51 hl52 hl53 hl58 hl55 hl25 hF_952 hY_953 hP_954 hK_955 hN9_959 c27_956 c28_957 c29_958 (by omega) (hpk) (by omega) (hs) (by omega) (by omega) (q208_s) (q226_s) (by omega) (by omega) (h19) (by omega) (by omega) (rfl)
                          · have c_166 : ¬ (¬ (nI (fldN (tX f n E (by2 f (p + 4))))) = 0) := of_decide_eq_false c_166
                            have n_166 : fldN (tX f n E (by2 f (p + 4))) = 0 := (eq_nI (p := fldN (tX f n E (by2 f (p + 4)))) (n := 0) (Nat.lt_trans (le1_fld _) (by decide)) (by decide)).mp (Decidable.not_not.mp c_166)
                            refine ps_st (S' := (170, [(0, .ref m0), (1, .int (nI p))], [.ref m0], M1)) rfl rfl rfl ?_
                            refine ps_st (S' := (172, [(0, .ref m0), (1, .int (nI p))], [.int 21, .ref m0], M1)) rfl rfl rfl ?_
                            refine ps_st (S' := (173, [(0, .ref m0), (1, .int (nI p))], [.int (nI p), .int 21, .ref m0], M1)) rfl rfl rfl ?_
                            refine ps_st (S' := (174, [(0, .ref m0), (1, .int (nI p))], [.int 4, .int (nI p), .int 21, .ref m0], M1)) rfl rfl rfl ?_
                            refine ps_st (S' := (175, [(0, .ref m0), (1, .int (nI p))], [.int ((nI p) + 4), .int 21, .ref m0], M1)) rfl rfl rfl ?_
                            rw [nI_add1 (p := p) (k := 4) (x := 4) rfl (by omega)]
                            show pl _ _ _ (_, [(0, .ref m0), (1, .int (nI p))], [.int (nI (p + 4)), .int 21, .ref m0], M1) _
                            refine pl_call (a := [.ref m0, .int 21, .int (nI (p + 4))]) (rest := []) rfl rfl rfl (rd_wrong (x1 := 21) (x2 := (nI (p + 4))) hR1) (fun v961 M962 q963 => ?_)
                            obtain ⟨I964, R965, rfl, hR966, hI967, hX968, hi969, hi970⟩ := q963
                            have hi971 := (hI967 51 (by decide)).trans hl51
                            have hi972 := (hI967 52 (by decide)).trans hl52
                            have hi973 := (hI967 53 (by decide)).trans hl53
                            have hi974 := (hI967 58 (by decide)).trans hl58
                            have hi975 := (hI967 55 (by decide)).trans hl55
                            have hi976 := (hI967 25 (by decide)).trans hl25
                            have hF_977 := hF1.mono (cIx hI967 (by decide)) (cRx hX968 (by decide))
                            have hY_978 := hY1.mono (cIx hI967 (by decide)) (cRx hX968 (by decide))
                            have hP_979 := hP1.mono (cIx hI967 (by decide)) (cRx hX968 (by decide))
                            have hK_980 := hK1.mono (cIx hI967 (by decide)) (cRx hX968 (by decide))
                            have hN9_981 := hN91.mono (cIx hI967 (by decide)) (cRx hX968 (by decide))
                            have hEI982 := hEI1.tr hI967 (by decide)
                            have hER983 := hER1.tr hX968 (by decide)
                            show pl _ _ _ (178, [(0, .ref m0), (1, .int (nI p))], [.int 0], M962) _
                            exact ps_ret rfl rfl (Or.inr ⟨(21, p + 4), I964, R965, by
                                rw [← hs, flS_st (i := k) (by omega), ← hpk, fh_21 (by have e1 := ffl_0 cf (by2 f p); have e2 := sev_0 (by2 f p); have e3 := hall_80 (by2 f p); omega) (by omega) (by omega)], rfl, hR966, hEI982, hER983, hi969, hi970⟩)
                      · have c_123 : ¬ (¬ (nI (unqN (tX f n E (by2 f (p + 2))))) = 0) := of_decide_eq_false c_123
                        have n_123 : unqN (tX f n E (by2 f (p + 2))) = 0 := (eq_nI (p := unqN (tX f n E (by2 f (p + 2)))) (n := 0) (Nat.lt_trans (le1_unq _) (by decide)) (by decide)).mp (Decidable.not_not.mp c_123)
                        refine ps_st (S' := (127, [(0, .ref m0), (1, .int (nI p))], [.ref m0], M1)) rfl rfl rfl ?_
                        refine ps_st (S' := (129, [(0, .ref m0), (1, .int (nI p))], [.int 20, .ref m0], M1)) rfl rfl rfl ?_
                        refine ps_st (S' := (130, [(0, .ref m0), (1, .int (nI p))], [.int (nI p), .int 20, .ref m0], M1)) rfl rfl rfl ?_
                        refine ps_st (S' := (131, [(0, .ref m0), (1, .int (nI p))], [.int 2, .int (nI p), .int 20, .ref m0], M1)) rfl rfl rfl ?_
                        refine ps_st (S' := (132, [(0, .ref m0), (1, .int (nI p))], [.int ((nI p) + 2), .int 20, .ref m0], M1)) rfl rfl rfl ?_
                        rw [nI_add1 (p := p) (k := 2) (x := 2) rfl (by omega)]
                        show pl _ _ _ (_, [(0, .ref m0), (1, .int (nI p))], [.int (nI (p + 2)), .int 20, .ref m0], M1) _
                        refine pl_call (a := [.ref m0, .int 20, .int (nI (p + 2))]) (rest := []) rfl rfl rfl (rd_wrong (x1 := 20) (x2 := (nI (p + 2))) hR1) (fun v984 M985 q986 => ?_)
                        obtain ⟨I987, R988, rfl, hR989, hI990, hX991, hi992, hi993⟩ := q986
                        have hi994 := (hI990 51 (by decide)).trans hl51
                        have hi995 := (hI990 52 (by decide)).trans hl52
                        have hi996 := (hI990 53 (by decide)).trans hl53
                        have hi997 := (hI990 58 (by decide)).trans hl58
                        have hi998 := (hI990 55 (by decide)).trans hl55
                        have hi999 := (hI990 25 (by decide)).trans hl25
                        have hF_1000 := hF1.mono (cIx hI990 (by decide)) (cRx hX991 (by decide))
                        have hY_1001 := hY1.mono (cIx hI990 (by decide)) (cRx hX991 (by decide))
                        have hP_1002 := hP1.mono (cIx hI990 (by decide)) (cRx hX991 (by decide))
                        have hK_1003 := hK1.mono (cIx hI990 (by decide)) (cRx hX991 (by decide))
                        have hN9_1004 := hN91.mono (cIx hI990 (by decide)) (cRx hX991 (by decide))
                        have hEI1005 := hEI1.tr hI990 (by decide)
                        have hER1006 := hER1.tr hX991 (by decide)
                        show pl _ _ _ (135, [(0, .ref m0), (1, .int (nI p))], [.int 0], M985) _
                        exact ps_ret rfl rfl (Or.inr ⟨(20, p + 2), I987, R988, by
                            rw [← hs, flS_st (i := k) (by omega), ← hpk, fh_20 (by have e1 := ffl_0 cf (by2 f p); have e2 := sev_0 (by2 f p); have e3 := hall_80 (by2 f p); omega) (by omega)], rfl, hR989, hEI1005, hER1006, hi992, hi993⟩)
                  · have c_81 : ¬ ((nI (aN (by2 f p) 16607)) = 25) := of_decide_eq_false c_81
                    have n_81 : ¬ (aN (by2 f p) 16607 = 25) := fun h9 => c_81 ((eq_nI (p := aN (by2 f p) 16607) (n := 25) (Nat.lt_of_le_of_lt (an_le _ _) (by decide)) (by decide)).mpr h9)
                    refine ps_st (S' := (85, [(0, .ref m0), (1, .int (nI p))], [.ref m0], M1)) rfl rfl rfl ?_
                    refine ps_st (S' := (87, [(0, .ref m0), (1, .int (nI p))], [.int 19, .ref m0], M1)) rfl rfl rfl ?_
                    refine ps_st (S' := (88, [(0, .ref m0), (1, .int (nI p))], [.int (nI p), .int 19, .ref m0], M1)) rfl rfl rfl ?_
                    refine pl_call (a := [.ref m0, .int 19, .int (nI p)]) (rest := []) rfl rfl rfl (rd_wrong (x1 := 19) (x2 := (nI p)) hR1) (fun v1007 M1008 q1009 => ?_)
                    obtain ⟨I1010, R1011, rfl, hR1012, hI1013, hX1014, hi1015, hi1016⟩ := q1009
                    have hi1017 := (hI1013 51 (by decide)).trans hl51
                    have hi1018 := (hI1013 52 (by decide)).trans hl52
                    have hi1019 := (hI1013 53 (by decide)).trans hl53
                    have hi1020 := (hI1013 58 (by decide)).trans hl58
                    have hi1021 := (hI1013 55 (by decide)).trans hl55
                    have hi1022 := (hI1013 25 (by decide)).trans hl25
                    have hF_1023 := hF1.mono (cIx hI1013 (by decide)) (cRx hX1014 (by decide))
                    have hY_1024 := hY1.mono (cIx hI1013 (by decide)) (cRx hX1014 (by decide))
                    have hP_1025 := hP1.mono (cIx hI1013 (by decide)) (cRx hX1014 (by decide))
                    have hK_1026 := hK1.mono (cIx hI1013 (by decide)) (cRx hX1014 (by decide))
                    have hN9_1027 := hN91.mono (cIx hI1013 (by decide)) (cRx hX1014 (by decide))
                    have hEI1028 := hEI1.tr hI1013 (by decide)
                    have hER1029 := hER1.tr hX1014 (by decide)
                    show pl _ _ _ (91, [(0, .ref m0), (1, .int (nI p))], [.int 0], M1008) _
                    exact ps_ret rfl rfl (Or.inr ⟨(19, p), I1010, R1011, by
                        rw [← hs, flS_st (i := k) (by omega), ← hpk, fh_19 (by have e1 := ffl_0 cf (by2 f p); have e2 := sev_0 (by2 f p); have e3 := hall_80 (by2 f p); omega)], rfl, hR1012, hEI1028, hER1029, hi1015, hi1016⟩)
      · skip
        intro k p j a d M1 I1 R1 hR1 hEI1 hER1 hl51 hl52 hl53 hl58 hl55 hl25 hF1 hY1 hP1 hK1 hN91 c271 c281 c291 hk0 hpk hpe hs hj hx hsa hsd ht1 ht2 h19 h20 h21 hd9
        have hn := hF1.1
        have hu9 := by2_lt f pF
        have htl := hY1.1.2.2.1
        have hBl := hMB.1
        refine ps_st1 (S' := (279, [(0, .ref m0), (1, .int (nI p)), (2, .int (nI (by2 f pF))), (3, .int (nI f0)), (4, .int (nI k)), (6, .int (nI (f0 + k))), (7, .int (nI (f0 + j)))], [.int (nI (f0 + j))], M1)) rfl rfl rfl ?_
        refine ps_st (S' := (281, [(0, .ref m0), (1, .int (nI p)), (2, .int (nI (by2 f pF))), (3, .int (nI f0)), (4, .int (nI k)), (6, .int (nI (f0 + k))), (7, .int (nI (f0 + j)))], [.int (nI (f0 + k)), .int (nI (f0 + j))], M1)) rfl rfl rfl ?_
        refine ps_if2 (S1 := (332, [(0, .ref m0), (1, .int (nI p)), (2, .int (nI (by2 f pF))), (3, .int (nI f0)), (4, .int (nI k)), (6, .int (nI (f0 + k))), (7, .int (nI (f0 + j)))], [], M1)) (S2 := (284, [(0, .ref m0), (1, .int (nI p)), (2, .int (nI (by2 f pF))), (3, .int (nI f0)), (4, .int (nI k)), (6, .int (nI (f0 + k))), (7, .int (nI (f0 + j)))], [], M1)) rfl rfl rfl (fun c_281 => ?_) (fun c_281 => ?_)
        · have c_281 : (nI (f0 + k)) ≤ (nI (f0 + j)) := of_decide_eq_true c_281
          have n_281 : f0 + k ≤ f0 + j := (le_nI (p := f0 + k) (n := f0 + j) (by omega) (by omega)).mp c_281
          refine ps_st (S' := (333, [(0, .ref m0), (1, .int (nI p)), (2, .int (nI (by2 f pF))), (3, .int (nI f0)), (4, .int (nI k)), (6, .int (nI (f0 + k))), (7, .int (nI (f0 + j)))], [.ref m0], M1)) rfl rfl rfl ?_
          refine ps_st (S' := (334, [(0, .ref m0), (1, .int (nI p)), (2, .int (nI (by2 f pF))), (3, .int (nI f0)), (4, .int (nI k)), (6, .int (nI (f0 + k))), (7, .int (nI (f0 + j)))], [.ref m0, .ref m0], M1)) rfl rfl rfl ?_
          refine pr_int (j := 25) (S' := (337, [(0, .ref m0), (1, .int (nI p)), (2, .int (nI (by2 f pF))), (3, .int (nI f0)), (4, .int (nI k)), (6, .int (nI (f0 + k))), (7, .int (nI (f0 + j)))], [.int (nI (f0 + k)), .ref m0], M1)) rfl hR1 rfl hl25 rfl ?_
          refine ps_st (S' := (338, [(0, .ref m0), (1, .int (nI p)), (2, .int (nI (by2 f pF))), (3, .int (nI f0)), (4, .int (nI k)), (6, .int (nI (f0 + k))), (7, .int (nI (f0 + j)))], [.int 1, .int (nI (f0 + k)), .ref m0], M1)) rfl rfl rfl ?_
          refine ps_st (S' := (339, [(0, .ref m0), (1, .int (nI p)), (2, .int (nI (by2 f pF))), (3, .int (nI f0)), (4, .int (nI k)), (6, .int (nI (f0 + k))), (7, .int (nI (f0 + j)))], [.int ((nI (f0 + k)) + 1), .ref m0], M1)) rfl rfl rfl ?_
          rw [nI_add1 (p := f0 + k) (k := 1) (x := 1) rfl (by omega)]
          show pl _ _ _ (_, [(0, .ref m0), (1, .int (nI p)), (2, .int (nI (by2 f pF))), (3, .int (nI f0)), (4, .int (nI k)), (6, .int (nI (f0 + k))), (7, .int (nI (f0 + j)))], [.int (nI (f0 + k + 1)), .ref m0], M1) _
          refine pr_put (j := 25) rfl hR1 rfl (fun M1030 I1031 hR1032 hi1033 hI1034 => ?_)
          have hi1035 := (hI1034 51 (by decide)).trans hl51
          have hi1036 := (hI1034 52 (by decide)).trans hl52
          have hi1037 := (hI1034 53 (by decide)).trans hl53
          have hi1038 := (hI1034 58 (by decide)).trans hl58
          have hi1039 := (hI1034 55 (by decide)).trans hl55
          have hF_1040 := hF1.mono (pIx hI1034 (by decide)) (fun _ _ => rfl)
          have hY_1041 := hY1.mono (pIx hI1034 (by decide)) (fun _ _ => rfl)
          have hP_1042 := hP1.mono (pIx hI1034 (by decide)) (fun _ _ => rfl)
          have hK_1043 := hK1.mono (pIx hI1034 (by decide)) (fun _ _ => rfl)
          have hN9_1044 := hN91.mono (pIx hI1034 (by decide)) (fun _ _ => rfl)
          have c27_1045 := c271.mono (pIx hI1034 (by decide)) (fun _ _ => rfl)
          have c28_1046 := c281.mono (pIx hI1034 (by decide)) (fun _ _ => rfl)
          have c29_1047 := c291.mono (pIx hI1034 (by decide)) (fun _ _ => rfl)
          have hEI1048 := hEI1.put hI1034 (by decide)
          show pl _ _ _ (342, [(0, .ref m0), (1, .int (nI p)), (2, .int (nI (by2 f pF))), (3, .int (nI f0)), (4, .int (nI k)), (6, .int (nI (f0 + k))), (7, .int (nI (f0 + j)))], [], M1030) _
          refine ps_st (S' := (343, [(0, .ref m0), (1, .int (nI p)), (2, .int (nI (by2 f pF))), (3, .int (nI f0)), (4, .int (nI k)), (6, .int (nI (f0 + k))), (7, .int (nI (f0 + j)))], [.ref m0], M1030)) rfl rfl rfl ?_
          refine ps_st (S' := (344, [(0, .ref m0), (1, .int (nI p)), (2, .int (nI (by2 f pF))), (3, .int (nI f0)), (4, .int (nI k)), (6, .int (nI (f0 + k))), (7, .int (nI (f0 + j)))], [.int (nI p), .ref m0], M1030)) rfl rfl rfl ?_
          refine ps_st (S' := (346, [(0, .ref m0), (1, .int (nI p)), (2, .int (nI (by2 f pF))), (3, .int (nI f0)), (4, .int (nI k)), (6, .int (nI (f0 + k))), (7, .int (nI (f0 + j)))], [.int 6, .int (nI p), .ref m0], M1030)) rfl rfl rfl ?_
          refine ps_st (S' := (347, [(0, .ref m0), (1, .int (nI p)), (2, .int (nI (by2 f pF))), (3, .int (nI f0)), (4, .int (nI k)), (6, .int (nI (f0 + k))), (7, .int (nI (f0 + j)))], [.int ((nI p) + 6), .ref m0], M1030)) rfl rfl rfl ?_
          rw [nI_add1 (p := p) (k := 6) (x := 6) rfl (by omega)]
          show pl _ _ _ (_, [(0, .ref m0), (1, .int (nI p)), (2, .int (nI (by2 f pF))), (3, .int (nI f0)), (4, .int (nI k)), (6, .int (nI (f0 + k))), (7, .int (nI (f0 + j)))], [.int (nI (p + 6)), .ref m0], M1030) _
          refine ps_st (S' := (348, [(0, .ref m0), (1, .int (nI p)), (2, .int (nI (by2 f pF))), (3, .int (nI f0)), (4, .int (nI k)), (6, .int (nI (f0 + k))), (7, .int (nI (f0 + j)))], [.int 1, .int (nI (p + 6)), .ref m0], M1030)) rfl rfl rfl ?_
          refine ps_st (S' := (350, [(0, .ref m0), (1, .int (nI p)), (2, .int (nI (by2 f pF))), (3, .int (nI f0)), (4, .int (nI k)), (6, .int (nI (f0 + k))), (7, .int (nI (f0 + j)))], [.int (nI (f0 + k)), .int 1, .int (nI (p + 6)), .ref m0], M1030)) rfl rfl rfl ?_
          have hm9 := hMB.2.2.2 k (by omega)
          rw [← hpk] at hm9
          have hX9 : FX (by2 f p) d (f0 + k) I1031 R1 := ⟨c27_1045, c29_1047⟩
          have hu8 := by2_lt f p
          refine pl_call (a := [.ref m0, .int (nI (p + 6)), .int 1, .int (nI (f0 + k))]) (rest := []) rfl rfl rfl (rd_checkAttributes1 (n := n) (f := f) (tx := tx) (cN := cN) (A := A) (N := N) (mj := mj) (E := E) (p1 := (p + 6)) (e := (E1 k)) (x := (f0 + k)) (fl := (by2 f p)) (ds := d) (l := (tX f n E (by2 f (p + 4)))) hR1032 hi1035 hi1036 hi1037 hF_1040 hY_1041 hP_1042 hK_1043 hX9 (hEP) (hN) (hmj) (⟨by omega, by omega⟩) (hm9.2.2.1) (hx) (hsd) (h21) (hu8)) (fun v1049 M1050 q1051 => ?_)
          rcases q1051 with q1051 | q1051
          · skip
            obtain ⟨e91052, I1053, R1054, q350_s, rfl, hR1055, hI1056, hX1057, hi1058, hi1059⟩ := q1051
            have hi1060 := (hI1056 51 (by decide)).trans hi1035
            have hi1061 := (hI1056 52 (by decide)).trans hi1036
            have hi1062 := (hI1056 53 (by decide)).trans hi1037
            have hi1063 := (hI1056 58 (by decide)).trans hi1038
            have hi1064 := (hI1056 55 (by decide)).trans hi1039
            have hi1065 := (hI1056 25 (by decide)).trans hi1033
            have hF_1066 := hF_1040.mono (cIx hI1056 (by decide)) (cRx hX1057 (by decide))
            have hY_1067 := hY_1041.mono (cIx hI1056 (by decide)) (cRx hX1057 (by decide))
            have hP_1068 := hP_1042.mono (cIx hI1056 (by decide)) (cRx hX1057 (by decide))
            have hK_1069 := hK_1043.mono (cIx hI1056 (by decide)) (cRx hX1057 (by decide))
            have hN9_1070 := hN9_1044.mono (cIx hI1056 (by decide)) (cRx hX1057 (by decide))
            have c27_1071 := c27_1045.mono (cIx hI1056 (by decide)) (cRx hX1057 (by decide))
            have c28_1072 := c28_1046.mono (cIx hI1056 (by decide)) (cRx hX1057 (by decide))
            have c29_1073 := c29_1047.mono (cIx hI1056 (by decide)) (cRx hX1057 (by decide))
            have hX_1074 := hX9.mono (cIx hI1056 (by decide)) (cRx hX1057 (by decide))
            have hEI1075 := hEI1048.tr hI1056 (by decide)
            have hER1076 := hER1.tr hX1057 (by decide)
            show pl _ _ _ (353, [(0, .ref m0), (1, .int (nI p)), (2, .int (nI (by2 f pF))), (3, .int (nI f0)), (4, .int (nI k)), (6, .int (nI (f0 + k))), (7, .int (nI (f0 + j)))], [.int (-1)], M1050) _
            refine ps_st (S' := (354, [(1, .int (-1)), (0, .ref m0), (2, .int (nI (by2 f pF))), (3, .int (nI f0)), (4, .int (nI k)), (6, .int (nI (f0 + k))), (7, .int (nI (f0 + j)))], [], M1050)) rfl rfl rfl ?_
            refine ps_st (S' := (355, [(1, .int (-1)), (0, .ref m0), (2, .int (nI (by2 f pF))), (3, .int (nI f0)), (4, .int (nI k)), (6, .int (nI (f0 + k))), (7, .int (nI (f0 + j)))], [.int (-1)], M1050)) rfl rfl rfl ?_
            refine ps_if (S1 := (360, [(1, .int (-1)), (0, .ref m0), (2, .int (nI (by2 f pF))), (3, .int (nI f0)), (4, .int (nI k)), (6, .int (nI (f0 + k))), (7, .int (nI (f0 + j)))], [], M1050)) (S2 := (358, [(1, .int (-1)), (0, .ref m0), (2, .int (nI (by2 f pF))), (3, .int (nI f0)), (4, .int (nI k)), (6, .int (nI (f0 + k))), (7, .int (nI (f0 + j)))], [], M1050)) rfl rfl rfl (fun c_355 => ?_) (fun c_355 => ?_)
            · exact absurd (of_decide_eq_true c_355) (by decide)
            refine ps_st (S' := (359, [(1, .int (-1)), (0, .ref m0), (2, .int (nI (by2 f pF))), (3, .int (nI f0)), (4, .int (nI k)), (6, .int (nI (f0 + k))), (7, .int (nI (f0 + j)))], [.int 0], M1050)) rfl rfl rfl ?_
            exact ps_ret rfl rfl (Or.inr ⟨e91052, I1053, R1054, by
                rw [← hs, flS_st (i := k) (by omega), ← hpk, fh_n hpk h19 h20 h21 (by rw [← hd9, show k - j = 0 by omega]; rfl), q350_s], rfl, hR1055, hEI1075, hER1076, hi1058, hi1059⟩)
          · skip
            obtain ⟨I1077, R1078, q350_s, rfl, hR1079, hI1080, hX1081⟩ := q1051
            have hi1082 := (hI1080 51 (by decide)).trans hi1035
            have hi1083 := (hI1080 52 (by decide)).trans hi1036
            have hi1084 := (hI1080 53 (by decide)).trans hi1037
            have hi1085 := (hI1080 58 (by decide)).trans hi1038
            have hi1086 := (hI1080 55 (by decide)).trans hi1039
            have hi1087 := (hI1080 25 (by decide)).trans hi1033
            have hF_1088 := hF_1040.mono (cIx hI1080 (by decide)) (cRx hX1081 (by decide))
            have hY_1089 := hY_1041.mono (cIx hI1080 (by decide)) (cRx hX1081 (by decide))
            have hP_1090 := hP_1042.mono (cIx hI1080 (by decide)) (cRx hX1081 (by decide))
            have hK_1091 := hK_1043.mono (cIx hI1080 (by decide)) (cRx hX1081 (by decide))
            have hN9_1092 := hN9_1044.mono (cIx hI1080 (by decide)) (cRx hX1081 (by decide))
            have c27_1093 := c27_1045.mono (cIx hI1080 (by decide)) (cRx hX1081 (by decide))
            have c28_1094 := c28_1046.mono (cIx hI1080 (by decide)) (cRx hX1081 (by decide))
            have c29_1095 := c29_1047.mono (cIx hI1080 (by decide)) (cRx hX1081 (by decide))
            have hX_1096 := hX9.mono (cIx hI1080 (by decide)) (cRx hX1081 (by decide))
            have hEI1097 := hEI1048.tr hI1080 (by decide)
            have hER1098 := hER1.tr hX1081 (by decide)
            show pl _ _ _ (353, [(0, .ref m0), (1, .int (nI p)), (2, .int (nI (by2 f pF))), (3, .int (nI f0)), (4, .int (nI k)), (6, .int (nI (f0 + k))), (7, .int (nI (f0 + j)))], [.int (nI (E1 k))], M1050) _
            refine ps_st (S' := (354, [(1, .int (nI (E1 k))), (0, .ref m0), (2, .int (nI (by2 f pF))), (3, .int (nI f0)), (4, .int (nI k)), (6, .int (nI (f0 + k))), (7, .int (nI (f0 + j)))], [], M1050)) rfl rfl rfl ?_
            refine ps_st (S' := (355, [(1, .int (nI (E1 k))), (0, .ref m0), (2, .int (nI (by2 f pF))), (3, .int (nI f0)), (4, .int (nI k)), (6, .int (nI (f0 + k))), (7, .int (nI (f0 + j)))], [.int (nI (E1 k))], M1050)) rfl rfl rfl ?_
            refine ps_if (S1 := (360, [(1, .int (nI (E1 k))), (0, .ref m0), (2, .int (nI (by2 f pF))), (3, .int (nI f0)), (4, .int (nI k)), (6, .int (nI (f0 + k))), (7, .int (nI (f0 + j)))], [], M1050)) (S2 := (358, [(1, .int (nI (E1 k))), (0, .ref m0), (2, .int (nI (by2 f pF))), (3, .int (nI f0)), (4, .int (nI k)), (6, .int (nI (f0 + k))), (7, .int (nI (f0 + j)))], [], M1050)) rfl rfl rfl (fun c_355 => ?_) (fun c_355 => ?_)
            rotate_left
            · exact absurd ((le_nI (p := 0) (n := E1 k) (by decide) (by omega)).mpr (by omega)) (of_decide_eq_false c_355)
            refine ps_st (S' := (363, [(4, .int ((nI k) + 1)), (1, .int (nI (E1 k))), (0, .ref m0), (2, .int (nI (by2 f pF))), (3, .int (nI f0)), (6, .int (nI (f0 + k))), (7, .int (nI (f0 + j)))], [], M1050)) rfl rfl rfl ?_
            rw [nI_add1 (p := k) (k := 1) (x := 1) rfl (by omega)]
            show pl _ _ _ (_, [(4, .int (nI (k + 1))), (1, .int (nI (E1 k))), (0, .ref m0), (2, .int (nI (by2 f pF))), (3, .int (nI f0)), (6, .int (nI (f0 + k))), (7, .int (nI (f0 + j)))], [], M1050) _
            refine ps_st (S' := (22, [(0, .ref m0), (1, .int (nI (E1 k))), (2, .int (nI (by2 f pF))), (3, .int (nI f0)), (4, .int (nI (k + 1)))], [], M1050)) rfl rfl rfl ?_
            have hN8 := FN.more hN9_1092 hpk c28_1094 c29_1095 hsa hsd ht1 ht2
            exact ih.1 (k + 1) (E1 k) M1050 I1077 R1078 hR1079 hEI1097 hER1098 hi1082 hi1083 hi1084 hi1085 hi1086 hi1087 hF_1088 hY_1089 hP_1090 hK_1091 hN8 (by omega) (fun h9 => (hm9.2.2.2 (by omega)).symm) (hm9.2.1) (by
                rw [← hs, flS_st (i := k) (by omega), ← hpk, fh_n hpk h19 h20 h21 (by rw [← hd9, show k - j = 0 by omega]; rfl), q350_s])
        · have c_281 : ¬ ((nI (f0 + k)) ≤ (nI (f0 + j))) := of_decide_eq_false c_281
          have n_281 : ¬ (f0 + k ≤ f0 + j) := fun h9 => c_281 ((le_nI (p := f0 + k) (n := f0 + j) (by omega) (by omega)).mpr h9)
          obtain ⟨a9, d9, g1, g2, g3, g4, g5, g6⟩ := hN91 j (by omega)
          have g7 := g3.1
          have g8 := g4.1
          have g0 := hsa.1
          have g9 := hsd.1
          have sm1 := sm_sym (k := by2 f (B.getD j 0 + 2)) (m := by2 f (p + 2)) hY1 g3 hsa g5 ht1
          have sm2 := sm_sym (k := by2 f (B.getD j 0 + 4)) (m := by2 f (p + 4)) hY1 g4 hsd g6 ht2
          refine ps_st (S' := (285, [(0, .ref m0), (1, .int (nI p)), (2, .int (nI (by2 f pF))), (3, .int (nI f0)), (4, .int (nI k)), (6, .int (nI (f0 + k))), (7, .int (nI (f0 + j)))], [.ref m0], M1)) rfl rfl rfl ?_
          refine pr_ref (j := 28) (S' := (288, [(0, .ref m0), (1, .int (nI p)), (2, .int (nI (by2 f pF))), (3, .int (nI f0)), (4, .int (nI k)), (6, .int (nI (f0 + k))), (7, .int (nI (f0 + j)))], [.ref (q 28)], M1)) rfl hR1 rfl rfl ?_
          refine ps_st (S' := (290, [(0, .ref m0), (1, .int (nI p)), (2, .int (nI (by2 f pF))), (3, .int (nI f0)), (4, .int (nI k)), (6, .int (nI (f0 + k))), (7, .int (nI (f0 + j)))], [.int (nI (f0 + j)), .ref (q 28)], M1)) rfl rfl rfl ?_
          refine pr_ld (a := 28) (j := f0 + j) (y := (nI a9)) (S' := (291, [(0, .ref m0), (1, .int (nI p)), (2, .int (nI (by2 f pF))), (3, .int (nI f0)), (4, .int (nI k)), (6, .int (nI (f0 + k))), (7, .int (nI (f0 + j)))], [.int (nI a9)], M1)) rfl hR1 rfl (by omega) (fun _ => g1) rfl (fun i1_290 => ?_)
          refine ps_st (S' := (292, [(0, .ref m0), (1, .int (nI p)), (2, .int (nI (by2 f pF))), (3, .int (nI f0)), (4, .int (nI k)), (6, .int (nI (f0 + k))), (7, .int (nI (f0 + j)))], [.ref m0, .int (nI a9)], M1)) rfl rfl rfl ?_
          refine pr_ref (j := 28) (S' := (295, [(0, .ref m0), (1, .int (nI p)), (2, .int (nI (by2 f pF))), (3, .int (nI f0)), (4, .int (nI k)), (6, .int (nI (f0 + k))), (7, .int (nI (f0 + j)))], [.ref (q 28), .int (nI a9)], M1)) rfl hR1 rfl rfl ?_
          refine ps_st (S' := (297, [(0, .ref m0), (1, .int (nI p)), (2, .int (nI (by2 f pF))), (3, .int (nI f0)), (4, .int (nI k)), (6, .int (nI (f0 + k))), (7, .int (nI (f0 + j)))], [.int (nI (f0 + k)), .ref (q 28), .int (nI a9)], M1)) rfl rfl rfl ?_
          refine pr_ld (a := 28) (j := f0 + k) (y := (nI a)) (S' := (298, [(0, .ref m0), (1, .int (nI p)), (2, .int (nI (by2 f pF))), (3, .int (nI f0)), (4, .int (nI k)), (6, .int (nI (f0 + k))), (7, .int (nI (f0 + j)))], [.int (nI a), .int (nI a9)], M1)) rfl hR1 rfl (by omega) (fun _ => c281) rfl (fun i1_297 => ?_)
          refine ps_if2 (S1 := (326, [(0, .ref m0), (1, .int (nI p)), (2, .int (nI (by2 f pF))), (3, .int (nI f0)), (4, .int (nI k)), (6, .int (nI (f0 + k))), (7, .int (nI (f0 + j)))], [], M1)) (S2 := (301, [(0, .ref m0), (1, .int (nI p)), (2, .int (nI (by2 f pF))), (3, .int (nI f0)), (4, .int (nI k)), (6, .int (nI (f0 + k))), (7, .int (nI (f0 + j)))], [], M1)) rfl rfl rfl (fun c_298 => ?_) (fun c_298 => ?_)
          · have c_298 : ¬ (nI a9) = (nI a) := of_decide_eq_true c_298
            have n_298 : ¬ (a9 = a) := fun h9 => c_298 ((eq_nI (p := a9) (n := a) (by omega) (by omega)).mpr h9)
            refine ps_st (S' := (329, [(7, .int ((nI (f0 + j)) + 1)), (0, .ref m0), (1, .int (nI p)), (2, .int (nI (by2 f pF))), (3, .int (nI f0)), (4, .int (nI k)), (6, .int (nI (f0 + k)))], [], M1)) rfl rfl rfl ?_
            rw [nI_add1 (p := f0 + j) (k := 1) (x := 1) rfl (by omega)]
            show pl _ _ _ (_, [(7, .int (nI (f0 + j + 1))), (0, .ref m0), (1, .int (nI p)), (2, .int (nI (by2 f pF))), (3, .int (nI f0)), (4, .int (nI k)), (6, .int (nI (f0 + k)))], [], M1) _
            refine ps_st (S' := (277, [(0, .ref m0), (1, .int (nI p)), (2, .int (nI (by2 f pF))), (3, .int (nI f0)), (4, .int (nI k)), (6, .int (nI (f0 + k))), (7, .int (nI (f0 + j + 1)))], [], M1)) rfl rfl rfl ?_
            exact ih.2 (k) (p) (j + 1) (a) (d) M1 I1 R1 hR1 hEI1 hER1 hl51 hl52 hl53 hl58 hl55 hl25 hF1 hY1 hP1 hK1 hN91 c271 c281 c291 (hk0) (hpk) (hpe) (hs) (by omega) (hx) (hsa) (hsd) (ht1) (ht2) (h19) (h20) (h21) (by
                rw [← hd9, smeS_st (i := j) (by omega), if_neg (by omega)])
          · have c_298 : ¬ (¬ (nI a9) = (nI a)) := of_decide_eq_false c_298
            have n_298 : a9 = a := (eq_nI (p := a9) (n := a) (by omega) (by omega)).mp (Decidable.not_not.mp c_298)
            refine ps_st (S' := (302, [(0, .ref m0), (1, .int (nI p)), (2, .int (nI (by2 f pF))), (3, .int (nI f0)), (4, .int (nI k)), (6, .int (nI (f0 + k))), (7, .int (nI (f0 + j)))], [.ref m0], M1)) rfl rfl rfl ?_
            refine pr_ref (j := 29) (S' := (305, [(0, .ref m0), (1, .int (nI p)), (2, .int (nI (by2 f pF))), (3, .int (nI f0)), (4, .int (nI k)), (6, .int (nI (f0 + k))), (7, .int (nI (f0 + j)))], [.ref (q 29)], M1)) rfl hR1 rfl rfl ?_
            refine ps_st (S' := (307, [(0, .ref m0), (1, .int (nI p)), (2, .int (nI (by2 f pF))), (3, .int (nI f0)), (4, .int (nI k)), (6, .int (nI (f0 + k))), (7, .int (nI (f0 + j)))], [.int (nI (f0 + j)), .ref (q 29)], M1)) rfl rfl rfl ?_
            refine pr_ld (a := 29) (j := f0 + j) (y := (nI d9)) (S' := (308, [(0, .ref m0), (1, .int (nI p)), (2, .int (nI (by2 f pF))), (3, .int (nI f0)), (4, .int (nI k)), (6, .int (nI (f0 + k))), (7, .int (nI (f0 + j)))], [.int (nI d9)], M1)) rfl hR1 rfl (by omega) (fun _ => g2) rfl (fun i1_307 => ?_)
            refine ps_st (S' := (309, [(0, .ref m0), (1, .int (nI p)), (2, .int (nI (by2 f pF))), (3, .int (nI f0)), (4, .int (nI k)), (6, .int (nI (f0 + k))), (7, .int (nI (f0 + j)))], [.ref m0, .int (nI d9)], M1)) rfl rfl rfl ?_
            refine pr_ref (j := 29) (S' := (312, [(0, .ref m0), (1, .int (nI p)), (2, .int (nI (by2 f pF))), (3, .int (nI f0)), (4, .int (nI k)), (6, .int (nI (f0 + k))), (7, .int (nI (f0 + j)))], [.ref (q 29), .int (nI d9)], M1)) rfl hR1 rfl rfl ?_
            refine ps_st (S' := (314, [(0, .ref m0), (1, .int (nI p)), (2, .int (nI (by2 f pF))), (3, .int (nI f0)), (4, .int (nI k)), (6, .int (nI (f0 + k))), (7, .int (nI (f0 + j)))], [.int (nI (f0 + k)), .ref (q 29), .int (nI d9)], M1)) rfl rfl rfl ?_
            refine pr_ld (a := 29) (j := f0 + k) (y := (nI d)) (S' := (315, [(0, .ref m0), (1, .int (nI p)), (2, .int (nI (by2 f pF))), (3, .int (nI f0)), (4, .int (nI k)), (6, .int (nI (f0 + k))), (7, .int (nI (f0 + j)))], [.int (nI d), .int (nI d9)], M1)) rfl hR1 rfl (by omega) (fun _ => c291) rfl (fun i1_314 => ?_)
            refine ps_if2 (S1 := (326, [(0, .ref m0), (1, .int (nI p)), (2, .int (nI (by2 f pF))), (3, .int (nI f0)), (4, .int (nI k)), (6, .int (nI (f0 + k))), (7, .int (nI (f0 + j)))], [], M1)) (S2 := (318, [(0, .ref m0), (1, .int (nI p)), (2, .int (nI (by2 f pF))), (3, .int (nI f0)), (4, .int (nI k)), (6, .int (nI (f0 + k))), (7, .int (nI (f0 + j)))], [], M1)) rfl rfl rfl (fun c_315 => ?_) (fun c_315 => ?_)
            · have c_315 : ¬ (nI d9) = (nI d) := of_decide_eq_true c_315
              have n_315 : ¬ (d9 = d) := fun h9 => c_315 ((eq_nI (p := d9) (n := d) (by omega) (by omega)).mpr h9)
              refine ps_st (S' := (329, [(7, .int ((nI (f0 + j)) + 1)), (0, .ref m0), (1, .int (nI p)), (2, .int (nI (by2 f pF))), (3, .int (nI f0)), (4, .int (nI k)), (6, .int (nI (f0 + k)))], [], M1)) rfl rfl rfl ?_
              rw [nI_add1 (p := f0 + j) (k := 1) (x := 1) rfl (by omega)]
              show pl _ _ _ (_, [(7, .int (nI (f0 + j + 1))), (0, .ref m0), (1, .int (nI p)), (2, .int (nI (by2 f pF))), (3, .int (nI f0)), (4, .int (nI k)), (6, .int (nI (f0 + k)))], [], M1) _
              refine ps_st (S' := (277, [(0, .ref m0), (1, .int (nI p)), (2, .int (nI (by2 f pF))), (3, .int (nI f0)), (4, .int (nI k)), (6, .int (nI (f0 + k))), (7, .int (nI (f0 + j + 1)))], [], M1)) rfl rfl rfl ?_
              exact ih.2 (k) (p) (j + 1) (a) (d) M1 I1 R1 hR1 hEI1 hER1 hl51 hl52 hl53 hl58 hl55 hl25 hF1 hY1 hP1 hK1 hN91 c271 c281 c291 (hk0) (hpk) (hpe) (hs) (by omega) (hx) (hsa) (hsd) (ht1) (ht2) (h19) (h20) (h21) (by
                  rw [← hd9, smeS_st (i := j) (by omega), if_neg (by omega)])
            · have c_315 : ¬ (¬ (nI d9) = (nI d)) := of_decide_eq_false c_315
              have n_315 : d9 = d := (eq_nI (p := d9) (n := d) (by omega) (by omega)).mp (Decidable.not_not.mp c_315)
              refine ps_st (S' := (319, [(0, .ref m0), (1, .int (nI p)), (2, .int (nI (by2 f pF))), (3, .int (nI f0)), (4, .int (nI k)), (6, .int (nI (f0 + k))), (7, .int (nI (f0 + j)))], [.ref m0], M1)) rfl rfl rfl ?_
              refine ps_st (S' := (321, [(0, .ref m0), (1, .int (nI p)), (2, .int (nI (by2 f pF))), (3, .int (nI f0)), (4, .int (nI k)), (6, .int (nI (f0 + k))), (7, .int (nI (f0 + j)))], [.int 22, .ref m0], M1)) rfl rfl rfl ?_
              refine ps_st (S' := (322, [(0, .ref m0), (1, .int (nI p)), (2, .int (nI (by2 f pF))), (3, .int (nI f0)), (4, .int (nI k)), (6, .int (nI (f0 + k))), (7, .int (nI (f0 + j)))], [.int (nI p), .int 22, .ref m0], M1)) rfl rfl rfl ?_
              refine pl_call (a := [.ref m0, .int 22, .int (nI p)]) (rest := []) rfl rfl rfl (rd_wrong (x1 := 22) (x2 := (nI p)) hR1) (fun v1099 M1100 q1101 => ?_)
              obtain ⟨I1102, R1103, rfl, hR1104, hI1105, hX1106, hi1107, hi1108⟩ := q1101
              have hi1109 := (hI1105 51 (by decide)).trans hl51
              have hi1110 := (hI1105 52 (by decide)).trans hl52
              have hi1111 := (hI1105 53 (by decide)).trans hl53
              have hi1112 := (hI1105 58 (by decide)).trans hl58
              have hi1113 := (hI1105 55 (by decide)).trans hl55
              have hi1114 := (hI1105 25 (by decide)).trans hl25
              have hF_1115 := hF1.mono (cIx hI1105 (by decide)) (cRx hX1106 (by decide))
              have hY_1116 := hY1.mono (cIx hI1105 (by decide)) (cRx hX1106 (by decide))
              have hP_1117 := hP1.mono (cIx hI1105 (by decide)) (cRx hX1106 (by decide))
              have hK_1118 := hK1.mono (cIx hI1105 (by decide)) (cRx hX1106 (by decide))
              have hN9_1119 := hN91.mono (cIx hI1105 (by decide)) (cRx hX1106 (by decide))
              have c27_1120 := c271.mono (cIx hI1105 (by decide)) (cRx hX1106 (by decide))
              have c28_1121 := c281.mono (cIx hI1105 (by decide)) (cRx hX1106 (by decide))
              have c29_1122 := c291.mono (cIx hI1105 (by decide)) (cRx hX1106 (by decide))
              have hEI1123 := hEI1.tr hI1105 (by decide)
              have hER1124 := hER1.tr hX1106 (by decide)
              show pl _ _ _ (325, [(0, .ref m0), (1, .int (nI p)), (2, .int (nI (by2 f pF))), (3, .int (nI f0)), (4, .int (nI k)), (6, .int (nI (f0 + k))), (7, .int (nI (f0 + j)))], [.int 0], M1100) _
              exact ps_ret rfl rfl (Or.inr ⟨(22, p), I1102, R1103, by
                  rw [← hs, flS_st (i := k) (by omega), ← hpk, fh_22 hpk h19 h20 h21 (by rw [← hd9, smeS_st (i := j) (by omega), if_pos (by omega)]; exact fun h9 => by cases h9)], rfl, hR1104, hEI1123, hER1124, hi1107, hi1108⟩)
  refine ps_st (S' := (1, [(0, .ref m0)], [.ref m0], M)) rfl rfl rfl ?_
  refine pr_int (j := 55) (S' := (4, [(0, .ref m0)], [.int (nI pF)], M)) rfl hR rfl hi55 rfl ?_
  refine ps_st (S' := (5, [(1, .int (nI pF)), (0, .ref m0)], [], M)) rfl rfl rfl ?_
  refine ps_st (S' := (6, [(1, .int (nI pF)), (0, .ref m0)], [.ref m0], M)) rfl rfl rfl ?_
  refine ps_st (S' := (7, [(1, .int (nI pF)), (0, .ref m0)], [.int (nI pF), .ref m0], M)) rfl rfl rfl ?_
  refine pl_call (a := [.ref m0, .int (nI pF)]) (rest := []) rfl rfl rfl (rd_u2 (n := n) (f := f) (p := pF) hR hF (by omega)) (fun v1125 M1126 q1127 => ?_)
  obtain ⟨rfl, rfl⟩ := q1127
  show pl _ _ _ (10, [(1, .int (nI pF)), (0, .ref m0)], [.int (nI (by2 f pF))], M) _
  have hu_7 := by2_lt f pF
  refine ps_st (S' := (11, [(2, .int (nI (by2 f pF))), (1, .int (nI pF)), (0, .ref m0)], [], M)) rfl rfl rfl ?_
  refine ps_st (S' := (14, [(1, .int ((nI pF) + 2)), (2, .int (nI (by2 f pF))), (0, .ref m0)], [], M)) rfl rfl rfl ?_
  rw [nI_add1 (p := pF) (k := 2) (x := 2) rfl (by omega)]
  show pl _ _ _ (_, [(1, .int (nI (pF + 2))), (2, .int (nI (by2 f pF))), (0, .ref m0)], [], M) _
  refine ps_st (S' := (15, [(1, .int (nI (pF + 2))), (2, .int (nI (by2 f pF))), (0, .ref m0)], [.ref m0], M)) rfl rfl rfl ?_
  refine pr_int (j := 25) (S' := (18, [(1, .int (nI (pF + 2))), (2, .int (nI (by2 f pF))), (0, .ref m0)], [.int (nI f0)], M)) rfl hR rfl hi25 rfl ?_
  refine ps_st (S' := (19, [(3, .int (nI f0)), (1, .int (nI (pF + 2))), (2, .int (nI (by2 f pF))), (0, .ref m0)], [], M)) rfl rfl rfl ?_
  refine ps_st (S' := (20, [(3, .int (nI f0)), (1, .int (nI (pF + 2))), (2, .int (nI (by2 f pF))), (0, .ref m0)], [.int 0], M)) rfl rfl rfl ?_
  refine ps_st (S' := (22, [(0, .ref m0), (1, .int (nI (pF + 2))), (2, .int (nI (by2 f pF))), (3, .int (nI f0)), (4, .int 0)], [], M)) rfl rfl rfl ?_
  exact (LL kf).1 (0) (pF + 2) M I R hR hEI hER hi51 hi52 hi53 hi58 hi55 hi25 hF hY hP hK hFN0 (by omega) (fun h9 => (hMB.2.2.1 (by omega)).symm) (by omega) (rfl)
end
