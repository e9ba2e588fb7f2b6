/-! attributes one by one, as the reference checks them (laid by wip/p4/e13.py) -/

theorem fe_c {f : Nat → Int32} {k p e : Nat} (hk : k = 3 ∨ k = 8 ∨ k = 10) (h : p + 2 ≤ e) : s_fe f k p e = some (p + 2 + 2 * by2 f p) := by
  unfold s_fe
  rw [if_neg (by omega), if_neg (by omega), if_pos hk]
theorem fe_5 {f : Nat → Int32} {p e : Nat} (h : p + 2 ≤ e) : s_fe f 5 p e = some (p + 2 + 8 * by2 f p) := by
  unfold s_fe
  rw [if_neg (by omega), if_neg (by decide), if_neg (by decide), if_pos rfl]
theorem fe_1 {f : Nat → Int32} {k p e : Nat} (hk : k = 1 ∨ k = 7) (h : p + 2 ≤ e) : s_fe f k p e = some (p + 2) := by
  unfold s_fe
  rw [if_neg (by omega), if_pos hk]
theorem fe_cd {f : Nat → Int32} {p e : Nat} : s_fe f 2 p e = s_cdE f e p := by
  by_cases h : e < p + 2
  · unfold s_fe s_cdE
    rw [if_pos h, if_pos (by omega)]
  · unfold s_fe
    rw [if_neg h, if_neg (by decide), if_neg (by decide), if_neg (by decide), if_neg (by decide), if_neg (by decide)]
theorem nI_m1 {k : Nat} (h : k < 65536) : ¬ nI k = -1 := fun h9 => by
  have h1 : nI 0 ≤ nI k := (le_nI (p := 0) (n := k) (by decide) (by omega)).mpr (Nat.zero_le _)
  rw [h9] at h1
  exact absurd h1 (by decide)
theorem ct_in {l : List Nat} (h : ¬ fldN l = 0) : 0 < l.length ∧ (l.getD 0 0 = 91 → 1 < l.length) ∧ (l.getD 0 0 = 76 → 1 < l.length) ∧ (¬ l.getD 0 0 = 91 → ¬ l.getD 0 0 = 76 → l.length = 1) := by
  have h1 : s_ty (fun i => l.getD i 0) l.length 0 = some l.length := by
    rw [fld_eq] at h
    by_cases h2 : s_ty (fun i => l.getD i 0) l.length 0 = some l.length
    · exact h2
    · rw [if_neg h2] at h
      exact absurd rfl h
  have h0 := (s_ty_le h1).1
  have hb := br_st (c := fun i => l.getD i 0) (n := l.length) (k := 0) h0
  have hb2 := s_br_le (c := fun i => l.getD i 0) (r := l.length - (0 + 1)) (i := 0 + 1)
  have hb3 : (l.getD 0 0 = 91 → 1 ≤ s_br (fun i => l.getD i 0) (l.length - 0) 0) ∧ (¬ l.getD 0 0 = 91 → s_br (fun i => l.getD i 0) (l.length - 0) 0 = 0) := by
    rw [hb]
    refine ⟨fun h9 => ?_, fun h9 => ?_⟩
    · rw [if_pos h9]
      exact hb2.1
    · rw [if_neg h9]
  clear hb hb2
  unfold s_ty at h1
  generalize s_br (fun i => l.getD i 0) (l.length - 0) 0 = b at h1 hb3
  split at h1
  · cases h1
  · split at h1
    · have h4 := Option.some.inj h1
      refine ⟨h0, fun h9 => ?_, fun h9 => ?_, fun h9 _ => ?_⟩
      · have := hb3.1 h9
        omega
      · rename_i h7
        have h8 := hb3.2 (by omega)
        rw [h8] at h7
        have h7' : l.getD 0 0 = 66 ∨ l.getD 0 0 = 67 ∨ l.getD 0 0 = 68 ∨ l.getD 0 0 = 70 ∨ l.getD 0 0 = 73 ∨ l.getD 0 0 = 74 ∨ l.getD 0 0 = 83 ∨ l.getD 0 0 = 90 := h7
        omega
      · have := hb3.2 h9
        omega
    · split at h1
      · split at h1
        · cases h1
        · rename_i x hx
          split at h1
          · have h4 := Option.some.inj h1
            have h5 := s_nm_le hx
            refine ⟨h0, fun h9 => by omega, fun h9 => by omega, fun h9 h8 => ?_⟩
            exfalso
            have h7 : (fun i => l.getD i 0) b = 76 := by assumption
            rw [hb3.2 h9] at h7
            exact h8 h7
          · cases h1
      · cases h1
theorem lt_28 : ltx 28 = ltx 9 := by decide +kernel
theorem ct_str {l : List Nat} (h : ¬ l.getD 0 0 = 76) : eqN l (ltx 9) = 0 := by
  unfold eqN
  refine if_neg (fun h9 => h ?_)
  rw [h9]
  decide +kernel
theorem ct_ne {l : List Nat} (h : ¬ fldN l = 0) (h1 : ¬ l.getD 0 0 = 76) (h2 : ¬ l.getD 0 0 = 91) : ctS l = some (if l.getD 0 0 = 70 then 4 else if l.getD 0 0 = 74 then 5 else if l.getD 0 0 = 68 then 6 else 3) := by
  have h3 := (ct_in h).2.2.2 h2 h1
  unfold ctS
  rw [if_neg (by rw [ct_str h1]; exact fun h9 => h9 rfl), if_neg (by omega)]
  split
  · rfl
  · split
    · rfl
    · split <;> rfl
theorem ct_91 {l : List Nat} (h : ¬ fldN l = 0) (h1 : l.getD 0 0 = 91) : ctS l = none := by
  have h3 := (ct_in h).2.1 h1
  unfold ctS
  rw [if_neg (by rw [ct_str (by omega)]; exact fun h9 => h9 rfl), if_pos (by omega)]
theorem ct_76 {l : List Nat} (h : ¬ fldN l = 0) (h1 : l.getD 0 0 = 76) : ctS l = if eqN l (ltx 9) = 0 then none else some 8 := by
  have h3 := (ct_in h).2.2.1 h1
  unfold ctS
  by_cases h4 : eqN l (ltx 9) = 0
  · rw [if_neg (by omega), if_pos (by omega), if_pos h4]
  · rw [if_pos h4, if_neg h4]
set_option maxHeartbeats 4000000 in
theorem rd_attr2 {g : xe_G} {m0 : Nat} {q : Nat → Nat} {z : Nat × Nat} {I : rI} {R : rR} {M : mi_H} {n : Nat} {f : Nat → Int32} {tx : List (List Nat)} {cN : Nat} {A : Nat → Nat} {N mj : Nat} {E : List (Nat × Nat)} {p0 e x s3 : Nat} {t : Int32} (hR : RS g m0 q z I R M) (hi51 : I 51 = some 0) (hi52 : I 52 = some (nI N)) (hi53 : I 53 = some (nI mj)) (hF : FK n f I R) (hY : SYT tx cN A I R) (hP : RPV f n E tx N I R) (hEP : EP f n E) (hN : N < 65536) (hmj : mj < 65536) (he : p0 ≤ e ∧ e ≤ n) (hs3 : s3 < 2048) (hx : x < 8300) : pt (mT g) 177 [.ref m0, .int 2, .int t, .int (nI p0), .int (nI e), .int (nI x), .int (nI s3)] M (fun v M' => (∃  (I' : rI) (R' : rR), (¬ s_fe f 3 p0 e = some e) ∧ v = some (.int 30) ∧ RS g m0 q z I' R' M' ∧ eqI [] I I' ∧ eqR [44] R R') ∨ (∃  (I' : rI) (R' : rR), (s_fe f 3 p0 e = some e) ∧ (clA f E (p0 + 2) (by2 f p0) 0 = 0) ∧ v = some (.int 32) ∧ RS g m0 q z I' R' M' ∧ eqI [] I I' ∧ eqR [44] R R') ∨ (∃  (I' : rI) (R' : rR), (s_fe f 3 p0 e = some e) ∧ (¬ clA f E (p0 + 2) (by2 f p0) 0 = 0) ∧ v = some (.int 0) ∧ RS g m0 q z I' R' M' ∧ eqI [] I I' ∧ eqR [44] R R')) := by
  refine pt_in (b := mb_177 g) rfl (fun kf => ?_)
  show pl (mT g) kf (mb_177 g).2 (0, [(0, .ref m0), (1, .int 2), (2, .int t), (3, .int (nI p0)), (4, .int (nI e)), (5, .int (nI x)), (6, .int (nI s3))], [], M) _
  have hEI : eqI [] I I := eqI.rf
  have hER : eqR [44] R R := eqR.rf
  have hn := hF.1
  have LL : ∀ (kf : Nat), (∀ (i : Nat) (M1 : mi_H) (I1 : rI) (R1 : rR), (RS g m0 q z I1 R1 M1) → (eqI [] I I1) → (eqR [44] R R1) → (I1 51 = some 0) → (I1 52 = some (nI N)) → (I1 53 = some (nI mj)) → (FK n f I1 R1) → (SYT tx cN A I1 R1) → (RPV f n E tx N I1 R1) → (s_fe f 3 p0 e = some e) → (i ≤ by2 f p0) → (p0 + 2 + 2 * by2 f p0 = e) → (clA f E (p0 + 2) (by2 f p0 - i) i = clA f E (p0 + 2) (by2 f p0) 0) →  pl (mT g) kf (mb_177 g).2 (268, [(0, .ref m0), (1, .int 2), (3, .int (nI p0)), (5, .int (nI x)), (6, .int (nI s3)), (9, .int (nI i))], [], M1) (fun v M' => (∃  (I' : rI) (R' : rR), (¬ s_fe f 3 p0 e = some e) ∧ v = some (.int 30) ∧ RS g m0 q z I' R' M' ∧ eqI [] I I' ∧ eqR [44] R R') ∨ (∃  (I' : rI) (R' : rR), (s_fe f 3 p0 e = some e) ∧ (clA f E (p0 + 2) (by2 f p0) 0 = 0) ∧ v = some (.int 32) ∧ RS g m0 q z I' R' M' ∧ eqI [] I I' ∧ eqR [44] R R') ∨ (∃  (I' : rI) (R' : rR), (s_fe f 3 p0 e = some e) ∧ (¬ clA f E (p0 + 2) (by2 f p0) 0 = 0) ∧ v = some (.int 0) ∧ RS g m0 q z I' R' M' ∧ eqI [] I I' ∧ eqR [44] R R'))) := by
    intro kf
    induction kf with
    | zero => exact (by intros; exact pl_0)
    | succ kf ih =>
      intro i M1 I1 R1 hR1 hEI1 hER1 hl51 hl52 hl53 hF1 hY1 hP1 hfe hi hle hs
      have hn := hF1.1
      have hu9 := by2_lt f p0
      have hs6 := sb_lt s3 6
      have hs7 := sb_lt s3 7
      refine ps_st1 (S' := (270, [(0, .ref m0), (1, .int 2), (3, .int (nI p0)), (5, .int (nI x)), (6, .int (nI s3)), (9, .int (nI i))], [.int (nI i)], M1)) rfl rfl rfl ?_
      refine ps_st (S' := (271, [(0, .ref m0), (1, .int 2), (3, .int (nI p0)), (5, .int (nI x)), (6, .int (nI s3)), (9, .int (nI i))], [.ref m0, .int (nI i)], M1)) rfl rfl rfl ?_
      refine ps_st (S' := (272, [(0, .ref m0), (1, .int 2), (3, .int (nI p0)), (5, .int (nI x)), (6, .int (nI s3)), (9, .int (nI i))], [.int (nI p0), .ref m0, .int (nI i)], M1)) rfl rfl rfl ?_
      refine pl_call (a := [.ref m0, .int (nI p0)]) (rest := [.int (nI i)]) rfl rfl rfl (rd_u2 (n := n) (f := f) (p := p0) hR1 hF1 (by omega)) (fun v1 M2 q3 => ?_)
      obtain ⟨rfl, rfl⟩ := q3
      show pl _ _ _ (275, [(0, .ref m0), (1, .int 2), (3, .int (nI p0)), (5, .int (nI x)), (6, .int (nI s3)), (9, .int (nI i))], [.int (nI (by2 f p0)), .int (nI i)], M1) _
      have hu_272 := by2_lt f p0
      refine ps_if2 (S1 := (329, [(0, .ref m0), (1, .int 2), (3, .int (nI p0)), (5, .int (nI x)), (6, .int (nI s3)), (9, .int (nI i))], [], M1)) (S2 := (278, [(0, .ref m0), (1, .int 2), (3, .int (nI p0)), (5, .int (nI x)), (6, .int (nI s3)), (9, .int (nI i))], [], M1)) rfl rfl rfl (fun c_275 => ?_) (fun c_275 => ?_)
      · have c_275 : (nI (by2 f p0)) ≤ (nI i) := of_decide_eq_true c_275
        have n_275 : by2 f p0 ≤ i := (le_nI (p := by2 f p0) (n := i) (Nat.lt_trans (by2_lt _ _) (by decide)) (by omega)).mp c_275
        refine ps_st (S' := (330, [(0, .ref m0), (1, .int 2), (3, .int (nI p0)), (5, .int (nI x)), (6, .int (nI s3)), (9, .int (nI i))], [.int 2], M1)) rfl rfl rfl ?_
        refine ps_st (S' := (332, [(0, .ref m0), (1, .int 2), (3, .int (nI p0)), (5, .int (nI x)), (6, .int (nI s3)), (9, .int (nI i))], [.int 7, .int 2], M1)) rfl rfl rfl ?_
        refine ps_if2 (S1 := (349, [(0, .ref m0), (1, .int 2), (3, .int (nI p0)), (5, .int (nI x))], [], M1)) (S2 := (335, [(0, .ref m0), (1, .int 2), (3, .int (nI p0)), (5, .int (nI x)), (6, .int (nI s3)), (9, .int (nI i))], [], M1)) rfl rfl rfl (fun c_332 => ?_) (fun c_332 => ?_)
        rotate_left
        · exact absurd (by decide) (of_decide_eq_false c_332)
        refine ps_st (S' := (350, [(0, .ref m0), (1, .int 2), (3, .int (nI p0)), (5, .int (nI x))], [.int 2], M1)) rfl rfl rfl ?_
        refine ps_st (S' := (351, [(0, .ref m0), (1, .int 2), (3, .int (nI p0)), (5, .int (nI x))], [.int 2, .int 2], M1)) rfl rfl rfl ?_
        refine ps_if2 (S1 := (366, [(0, .ref m0), (1, .int 2), (3, .int (nI p0))], [], M1)) (S2 := (354, [(0, .ref m0), (1, .int 2), (3, .int (nI p0)), (5, .int (nI x))], [], M1)) rfl rfl rfl (fun c_351 => ?_) (fun c_351 => ?_)
        · exact absurd (of_decide_eq_true c_351) (by decide)
        refine ps_st (S' := (355, [(0, .ref m0), (1, .int 2), (3, .int (nI p0)), (5, .int (nI x))], [.ref m0], M1)) rfl rfl rfl ?_
        refine pr_ref (j := 44) (S' := (358, [(0, .ref m0), (1, .int 2), (3, .int (nI p0)), (5, .int (nI x))], [.ref (q 44)], M1)) rfl hR1 rfl rfl ?_
        refine ps_st (S' := (360, [(0, .ref m0), (1, .int 2), (3, .int (nI p0)), (5, .int (nI x))], [.int (nI x), .ref (q 44)], M1)) rfl rfl rfl ?_
        refine ps_st (S' := (361, [(0, .ref m0), (1, .int 2), (3, .int (nI p0)), (5, .int (nI x))], [.ref m0, .int (nI x), .ref (q 44)], M1)) rfl rfl rfl ?_
        refine ps_st (S' := (362, [(0, .ref m0), (1, .int 2), (3, .int (nI p0)), (5, .int (nI x))], [.int (nI p0), .ref m0, .int (nI x), .ref (q 44)], M1)) rfl rfl rfl ?_
        refine pl_call (a := [.ref m0, .int (nI p0)]) (rest := [.int (nI x), .ref (q 44)]) rfl rfl rfl (rd_u2 (n := n) (f := f) (p := p0) hR1 hF1 (by omega)) (fun v4 M5 q6 => ?_)
        obtain ⟨rfl, rfl⟩ := q6
        show pl _ _ _ (365, [(0, .ref m0), (1, .int 2), (3, .int (nI p0)), (5, .int (nI x))], [.int (nI (by2 f p0)), .int (nI x), .ref (q 44)], M1) _
        have hu_362 := by2_lt f p0
        refine pr_st (a := 44) (j := x) rfl hR1 rfl (by omega) (fun M7 R8 i1_365 hR9 hS10 => ?_)
        have hF_11 := hF1.mono (fun _ _ => rfl) (rRx hS10 (by decide))
        have hY_12 := hY1.mono (fun _ _ => rfl) (rRx hS10 (by decide))
        have hP_13 := hP1.mono (fun _ _ => rfl) (rRx hS10 (by decide))
        have hER14 := hER1.st hS10 (by decide)
        show pl _ _ _ (366, [(0, .ref m0), (1, .int 2), (3, .int (nI p0))], [], M7) _
        refine ps_st (S' := (367, [(0, .ref m0), (1, .int 2), (3, .int (nI p0))], [.int 2], M7)) rfl rfl rfl ?_
        refine ps_st (S' := (369, [(0, .ref m0), (1, .int 2), (3, .int (nI p0))], [.int 7, .int 2], M7)) rfl rfl rfl ?_
        refine ps_if2 (S1 := (381, [(0, .ref m0), (1, .int 2), (3, .int (nI p0))], [], M7)) (S2 := (372, [(0, .ref m0), (1, .int 2), (3, .int (nI p0))], [], M7)) rfl rfl rfl (fun c_369 => ?_) (fun c_369 => ?_)
        rotate_left
        · exact absurd (by decide) (of_decide_eq_false c_369)
        refine ps_st (S' := (382, [(0, .ref m0), (1, .int 2), (3, .int (nI p0))], [.int 2], M7)) rfl rfl rfl ?_
        refine ps_st (S' := (384, [(0, .ref m0), (1, .int 2), (3, .int (nI p0))], [.int 9, .int 2], M7)) rfl rfl rfl ?_
        refine ps_if2 (S1 := (396, [], [], M7)) (S2 := (387, [(0, .ref m0), (1, .int 2), (3, .int (nI p0))], [], M7)) rfl rfl rfl (fun c_384 => ?_) (fun c_384 => ?_)
        rotate_left
        · exact absurd (by decide) (of_decide_eq_false c_384)
        refine ps_st (S' := (397, [], [.int 0], M7)) rfl rfl rfl ?_
        exact ps_ret rfl rfl (Or.inr (Or.inr ⟨I1, R8, hfe, by rw [← hs, show by2 f p0 - i = 0 by omega]; exact Nat.one_ne_zero, rfl, hR9, hEI1, hER14⟩))
      · have c_275 : ¬ ((nI (by2 f p0)) ≤ (nI i)) := of_decide_eq_false c_275
        have n_275 : ¬ (by2 f p0 ≤ i) := fun h9 => c_275 ((le_nI (p := by2 f p0) (n := i) (Nat.lt_trans (by2_lt _ _) (by decide)) (by omega)).mpr h9)
        refine ps_st (S' := (279, [(0, .ref m0), (1, .int 2), (3, .int (nI p0)), (5, .int (nI x)), (6, .int (nI s3)), (9, .int (nI i))], [.ref m0], M1)) rfl rfl rfl ?_
        refine ps_st (S' := (280, [(0, .ref m0), (1, .int 2), (3, .int (nI p0)), (5, .int (nI x)), (6, .int (nI s3)), (9, .int (nI i))], [.ref m0, .ref m0], M1)) rfl rfl rfl ?_
        refine ps_st (S' := (281, [(0, .ref m0), (1, .int 2), (3, .int (nI p0)), (5, .int (nI x)), (6, .int (nI s3)), (9, .int (nI i))], [.int (nI p0), .ref m0, .ref m0], M1)) rfl rfl rfl ?_
        refine ps_st (S' := (282, [(0, .ref m0), (1, .int 2), (3, .int (nI p0)), (5, .int (nI x)), (6, .int (nI s3)), (9, .int (nI i))], [.int 2, .int (nI p0), .ref m0, .ref m0], M1)) rfl rfl rfl ?_
        refine ps_st (S' := (283, [(0, .ref m0), (1, .int 2), (3, .int (nI p0)), (5, .int (nI x)), (6, .int (nI s3)), (9, .int (nI i))], [.int ((nI p0) + 2), .ref m0, .ref m0], M1)) rfl rfl rfl ?_
        rw [nI_add1 (p := p0) (k := 2) (x := 2) rfl (by omega)]
        show pl _ _ _ (_, [(0, .ref m0), (1, .int 2), (3, .int (nI p0)), (5, .int (nI x)), (6, .int (nI s3)), (9, .int (nI i))], [.int (nI (p0 + 2)), .ref m0, .ref m0], M1) _
        refine ps_st (S' := (284, [(0, .ref m0), (1, .int 2), (3, .int (nI p0)), (5, .int (nI x)), (6, .int (nI s3)), (9, .int (nI i))], [.int 2, .int (nI (p0 + 2)), .ref m0, .ref m0], M1)) rfl rfl rfl ?_
        refine ps_st (S' := (286, [(0, .ref m0), (1, .int 2), (3, .int (nI p0)), (5, .int (nI x)), (6, .int (nI s3)), (9, .int (nI i))], [.int (nI i), .int 2, .int (nI (p0 + 2)), .ref m0, .ref m0], M1)) rfl rfl rfl ?_
        refine ps_st (S' := (287, [(0, .ref m0), (1, .int 2), (3, .int (nI p0)), (5, .int (nI x)), (6, .int (nI s3)), (9, .int (nI i))], [.int (2 * (nI i)), .int (nI (p0 + 2)), .ref m0, .ref m0], M1)) rfl rfl rfl ?_
        rw [nI_mul1 (p := 2) (k := i) (x := 2) (y := (nI i)) rfl rfl (by omega)]
        show pl _ _ _ (_, [(0, .ref m0), (1, .int 2), (3, .int (nI p0)), (5, .int (nI x)), (6, .int (nI s3)), (9, .int (nI i))], [.int (nI (2 * i)), .int (nI (p0 + 2)), .ref m0, .ref m0], M1) _
        refine ps_st (S' := (288, [(0, .ref m0), (1, .int 2), (3, .int (nI p0)), (5, .int (nI x)), (6, .int (nI s3)), (9, .int (nI i))], [.int ((nI (p0 + 2)) + (nI (2 * i))), .ref m0, .ref m0], M1)) rfl rfl rfl ?_
        rw [nI_add1 (p := p0 + 2) (k := 2 * i) (x := (nI (2 * i))) rfl (by omega)]
        show pl _ _ _ (_, [(0, .ref m0), (1, .int 2), (3, .int (nI p0)), (5, .int (nI x)), (6, .int (nI s3)), (9, .int (nI i))], [.int (nI (p0 + 2 + 2 * i)), .ref m0, .ref m0], M1) _
        refine pl_call (a := [.ref m0, .int (nI (p0 + 2 + 2 * i))]) (rest := [.ref m0]) rfl rfl rfl (rd_u2 (n := n) (f := f) (p := (p0 + 2 + 2 * i)) hR1 hF1 (by omega)) (fun v15 M16 q17 => ?_)
        obtain ⟨rfl, rfl⟩ := q17
        show pl _ _ _ (291, [(0, .ref m0), (1, .int 2), (3, .int (nI p0)), (5, .int (nI x)), (6, .int (nI s3)), (9, .int (nI i))], [.int (nI (by2 f (p0 + 2 + 2 * i))), .ref m0], M1) _
        have hu_288 := by2_lt f (p0 + 2 + 2 * i)
        refine pl_call (a := [.ref m0, .int (nI (by2 f (p0 + 2 + 2 * i)))]) (rest := []) rfl rfl rfl (rd_tag (n := n) (f := f) (tx := tx) (cN := cN) (A := A) (N := N) (mj := mj) (E := E) (k := (by2 f (p0 + 2 + 2 * i))) hR1 hl51 hl52 hl53 hF1 hY1 hP1 (hEP) (hN) (hmj) (by2_lt _ _)) (fun v18 M19 q20 => ?_)
        obtain ⟨rfl, rfl⟩ := q20
        show pl _ _ _ (294, [(0, .ref m0), (1, .int 2), (3, .int (nI p0)), (5, .int (nI x)), (6, .int (nI s3)), (9, .int (nI i))], [.int (nI (tg f E (by2 f (p0 + 2 + 2 * i))))], M1) _
        have htg_291 := tg_lt f E (by2 f (p0 + 2 + 2 * i))
        refine ps_st (S' := (296, [(0, .ref m0), (1, .int 2), (3, .int (nI p0)), (5, .int (nI x)), (6, .int (nI s3)), (9, .int (nI i))], [.int 7, .int (nI (tg f E (by2 f (p0 + 2 + 2 * i))))], M1)) rfl rfl rfl ?_
        refine ps_if2 (S1 := (323, [(0, .ref m0), (1, .int 2), (3, .int (nI p0)), (5, .int (nI x)), (6, .int (nI s3)), (9, .int (nI i))], [], M1)) (S2 := (299, [(0, .ref m0), (1, .int 2), (3, .int (nI p0)), (5, .int (nI x)), (6, .int (nI s3)), (9, .int (nI i))], [], M1)) rfl rfl rfl (fun c_296 => ?_) (fun c_296 => ?_)
        · have c_296 : (nI (tg f E (by2 f (p0 + 2 + 2 * i)))) = 7 := of_decide_eq_true c_296
          have n_296 : tg f E (by2 f (p0 + 2 + 2 * i)) = 7 := (eq_nI (p := tg f E (by2 f (p0 + 2 + 2 * i))) (n := 7) (Nat.lt_trans (tg_lt _ _ _) (by decide)) (by decide)).mp c_296
          refine ps_st (S' := (326, [(9, .int ((nI i) + 1)), (0, .ref m0), (1, .int 2), (3, .int (nI p0)), (5, .int (nI x)), (6, .int (nI s3))], [], M1)) rfl rfl rfl ?_
          rw [nI_add1 (p := i) (k := 1) (x := 1) rfl (by omega)]
          show pl _ _ _ (_, [(9, .int (nI (i + 1))), (0, .ref m0), (1, .int 2), (3, .int (nI p0)), (5, .int (nI x)), (6, .int (nI s3))], [], M1) _
          refine ps_st (S' := (268, [(0, .ref m0), (1, .int 2), (3, .int (nI p0)), (5, .int (nI x)), (6, .int (nI s3)), (9, .int (nI (i + 1)))], [], M1)) rfl rfl rfl ?_
          exact ih (i + 1) M1 I1 R1 hR1 hEI1 hER1 hl51 hl52 hl53 hF1 hY1 hP1 (hfe) (by omega) (hle) (by
              rw [← hs, clA_st (i := i) (by omega), if_pos (by omega)])
        · have c_296 : ¬ ((nI (tg f E (by2 f (p0 + 2 + 2 * i)))) = 7) := of_decide_eq_false c_296
          have n_296 : ¬ (tg f E (by2 f (p0 + 2 + 2 * i)) = 7) := fun h9 => c_296 ((eq_nI (p := tg f E (by2 f (p0 + 2 + 2 * i))) (n := 7) (Nat.lt_trans (tg_lt _ _ _) (by decide)) (by decide)).mpr h9)
          refine ps_st (S' := (300, [(0, .ref m0), (1, .int 2), (3, .int (nI p0)), (5, .int (nI x)), (6, .int (nI s3)), (9, .int (nI i))], [.int 2], M1)) rfl rfl rfl ?_
          refine ps_st (S' := (301, [(0, .ref m0), (1, .int 2), (3, .int (nI p0)), (5, .int (nI x)), (6, .int (nI s3)), (9, .int (nI i))], [.int 2, .int 2], M1)) rfl rfl rfl ?_
          refine ps_if2 (S1 := (309, [(0, .ref m0), (1, .int 2), (3, .int (nI p0)), (5, .int (nI x)), (6, .int (nI s3)), (9, .int (nI i))], [], M1)) (S2 := (304, [(0, .ref m0), (1, .int 2), (3, .int (nI p0)), (5, .int (nI x)), (6, .int (nI s3)), (9, .int (nI i))], [], M1)) rfl rfl rfl (fun c_301 => ?_) (fun c_301 => ?_)
          · exact absurd (of_decide_eq_true c_301) (by decide)
          refine ps_st (S' := (306, [(0, .ref m0), (1, .int 2), (3, .int (nI p0)), (5, .int (nI x)), (6, .int (nI s3)), (9, .int (nI i))], [.int 32], M1)) rfl rfl rfl ?_
          refine ps_st (S' := (322, [], [.int 32], M1)) rfl rfl rfl ?_
          exact ps_ret rfl rfl (Or.inr (Or.inl ⟨I1, R1, hfe, by rw [← hs, clA_st (i := i) (by omega), if_neg (by omega)], rfl, hR1, hEI1, hER1⟩))
  refine ps_st (S' := (1, [(0, .ref m0), (1, .int 2), (2, .int t), (3, .int (nI p0)), (4, .int (nI e)), (5, .int (nI x)), (6, .int (nI s3))], [.int 2], M)) rfl rfl rfl ?_
  refine ps_st (S' := (219, [(0, .ref m0), (1, .int 2), (2, .int t), (3, .int (nI p0)), (4, .int (nI e)), (5, .int (nI x)), (6, .int (nI s3))], [], M)) rfl rfl rfl ?_
  refine ps_st (S' := (221, [(0, .ref m0), (1, .int 2), (2, .int t), (3, .int (nI p0)), (4, .int (nI e)), (5, .int (nI x)), (6, .int (nI s3))], [.int (nI e)], M)) rfl rfl rfl ?_
  refine ps_st (S' := (222, [(0, .ref m0), (1, .int 2), (2, .int t), (3, .int (nI p0)), (4, .int (nI e)), (5, .int (nI x)), (6, .int (nI s3))], [.int (nI p0), .int (nI e)], M)) rfl rfl rfl ?_
  refine ps_st (S' := (223, [(0, .ref m0), (1, .int 2), (2, .int t), (3, .int (nI p0)), (4, .int (nI e)), (5, .int (nI x)), (6, .int (nI s3))], [.int ((nI e) - (nI p0))], M)) rfl rfl rfl ?_
  rw [nI_sub1 (p := e) (k := p0) (x := (nI p0)) rfl (by omega) (by omega)]
  show pl _ _ _ (_, [(0, .ref m0), (1, .int 2), (2, .int t), (3, .int (nI p0)), (4, .int (nI e)), (5, .int (nI x)), (6, .int (nI s3))], [.int (nI (e - p0))], M) _
  refine ps_st (S' := (224, [(0, .ref m0), (1, .int 2), (2, .int t), (3, .int (nI p0)), (4, .int (nI e)), (5, .int (nI x)), (6, .int (nI s3))], [.int 2, .int (nI (e - p0))], M)) rfl rfl rfl ?_
  refine ps_if2 (S1 := (243, [], [], M)) (S2 := (227, [(0, .ref m0), (1, .int 2), (2, .int t), (3, .int (nI p0)), (4, .int (nI e)), (5, .int (nI x)), (6, .int (nI s3))], [], M)) rfl rfl rfl (fun c_224 => ?_) (fun c_224 => ?_)
  · have c_224 : (nI (e - p0)) < 2 := of_decide_eq_true c_224
    have n_224 : e - p0 < 2 := (lt_nI (p := e - p0) (n := 2) (by omega) (by decide)).mp c_224
    refine ps_st (S' := (245, [], [.int 30], M)) rfl rfl rfl ?_
    exact ps_ret rfl rfl (Or.inl ⟨I, R, fe_2 (by omega), rfl, hR, hEI, hER⟩)
  · have c_224 : ¬ ((nI (e - p0)) < 2) := of_decide_eq_false c_224
    have n_224 : ¬ (e - p0 < 2) := fun h9 => c_224 ((lt_nI (p := e - p0) (n := 2) (by omega) (by decide)).mpr h9)
    refine ps_st (S' := (229, [(0, .ref m0), (1, .int 2), (2, .int t), (3, .int (nI p0)), (4, .int (nI e)), (5, .int (nI x)), (6, .int (nI s3))], [.int (nI e)], M)) rfl rfl rfl ?_
    refine ps_st (S' := (230, [(0, .ref m0), (1, .int 2), (2, .int t), (3, .int (nI p0)), (4, .int (nI e)), (5, .int (nI x)), (6, .int (nI s3))], [.int (nI p0), .int (nI e)], M)) rfl rfl rfl ?_
    refine ps_st (S' := (231, [(0, .ref m0), (1, .int 2), (2, .int t), (3, .int (nI p0)), (4, .int (nI e)), (5, .int (nI x)), (6, .int (nI s3))], [.int ((nI e) - (nI p0))], M)) rfl rfl rfl ?_
    rw [nI_sub1 (p := e) (k := p0) (x := (nI p0)) rfl (by omega) (by omega)]
    show pl _ _ _ (_, [(0, .ref m0), (1, .int 2), (2, .int t), (3, .int (nI p0)), (4, .int (nI e)), (5, .int (nI x)), (6, .int (nI s3))], [.int (nI (e - p0))], M) _
    refine ps_st (S' := (232, [(0, .ref m0), (1, .int 2), (2, .int t), (3, .int (nI p0)), (4, .int (nI e)), (5, .int (nI x)), (6, .int (nI s3))], [.int 2, .int (nI (e - p0))], M)) rfl rfl rfl ?_
    refine ps_st (S' := (233, [(0, .ref m0), (1, .int 2), (2, .int t), (3, .int (nI p0)), (4, .int (nI e)), (5, .int (nI x)), (6, .int (nI s3))], [.int 2, .int 2, .int (nI (e - p0))], M)) rfl rfl rfl ?_
    refine ps_st (S' := (234, [(0, .ref m0), (1, .int 2), (2, .int t), (3, .int (nI p0)), (4, .int (nI e)), (5, .int (nI x)), (6, .int (nI s3))], [.ref m0, .int 2, .int 2, .int (nI (e - p0))], M)) rfl rfl rfl ?_
    refine ps_st (S' := (235, [(0, .ref m0), (1, .int 2), (2, .int t), (3, .int (nI p0)), (4, .int (nI e)), (5, .int (nI x)), (6, .int (nI s3))], [.int (nI p0), .ref m0, .int 2, .int 2, .int (nI (e - p0))], M)) rfl rfl rfl ?_
    refine pl_call (a := [.ref m0, .int (nI p0)]) (rest := [.int 2, .int 2, .int (nI (e - p0))]) rfl rfl rfl (rd_u2 (n := n) (f := f) (p := p0) hR hF (by omega)) (fun v21 M22 q23 => ?_)
    obtain ⟨rfl, rfl⟩ := q23
    show pl _ _ _ (238, [(0, .ref m0), (1, .int 2), (2, .int t), (3, .int (nI p0)), (4, .int (nI e)), (5, .int (nI x)), (6, .int (nI s3))], [.int (nI (by2 f p0)), .int 2, .int 2, .int (nI (e - p0))], M) _
    have hu_235 := by2_lt f p0
    refine ps_st (S' := (239, [(0, .ref m0), (1, .int 2), (2, .int t), (3, .int (nI p0)), (4, .int (nI e)), (5, .int (nI x)), (6, .int (nI s3))], [.int (2 * (nI (by2 f p0))), .int 2, .int (nI (e - p0))], M)) rfl rfl rfl ?_
    rw [nI_mul1 (p := 2) (k := by2 f p0) (x := 2) (y := (nI (by2 f p0))) rfl rfl (by omega)]
    show pl _ _ _ (_, [(0, .ref m0), (1, .int 2), (2, .int t), (3, .int (nI p0)), (4, .int (nI e)), (5, .int (nI x)), (6, .int (nI s3))], [.int (nI (2 * (by2 f p0))), .int 2, .int (nI (e - p0))], M) _
    refine ps_st (S' := (240, [(0, .ref m0), (1, .int 2), (2, .int t), (3, .int (nI p0)), (4, .int (nI e)), (5, .int (nI x)), (6, .int (nI s3))], [.int (2 + (nI (2 * (by2 f p0)))), .int (nI (e - p0))], M)) rfl rfl rfl ?_
    rw [nI_add2 (p := 2) (k := 2 * (by2 f p0)) (x := 2) (y := (nI (2 * (by2 f p0)))) rfl rfl (by omega)]
    show pl _ _ _ (_, [(0, .ref m0), (1, .int 2), (2, .int t), (3, .int (nI p0)), (4, .int (nI e)), (5, .int (nI x)), (6, .int (nI s3))], [.int (nI (2 + 2 * (by2 f p0))), .int (nI (e - p0))], M) _
    refine ps_if2 (S1 := (246, [(0, .ref m0), (1, .int 2), (2, .int t), (3, .int (nI p0)), (4, .int (nI e)), (5, .int (nI x)), (6, .int (nI s3))], [], M)) (S2 := (243, [], [], M)) rfl rfl rfl (fun c_240 => ?_) (fun c_240 => ?_)
    · have c_240 : (nI (e - p0)) = (nI (2 + 2 * (by2 f p0))) := of_decide_eq_true c_240
      have n_240 : e - p0 = 2 + 2 * (by2 f p0) := (eq_nI (p := e - p0) (n := 2 + 2 * (by2 f p0)) (by omega) (by omega)).mp c_240
      refine ps_st (S' := (247, [(0, .ref m0), (1, .int 2), (2, .int t), (3, .int (nI p0)), (4, .int (nI e)), (5, .int (nI x)), (6, .int (nI s3))], [.int 2], M)) rfl rfl rfl ?_
      refine ps_st (S' := (249, [(0, .ref m0), (1, .int 2), (2, .int t), (3, .int (nI p0)), (4, .int (nI e)), (5, .int (nI x)), (6, .int (nI s3))], [.int 9, .int 2], M)) rfl rfl rfl ?_
      refine ps_if2 (S1 := (265, [(0, .ref m0), (1, .int 2), (3, .int (nI p0)), (5, .int (nI x)), (6, .int (nI s3))], [], M)) (S2 := (252, [(0, .ref m0), (1, .int 2), (2, .int t), (3, .int (nI p0)), (4, .int (nI e)), (5, .int (nI x)), (6, .int (nI s3))], [], M)) rfl rfl rfl (fun c_249 => ?_) (fun c_249 => ?_)
      rotate_left
      · exact absurd (by decide) (of_decide_eq_false c_249)
      refine ps_st (S' := (266, [(0, .ref m0), (1, .int 2), (3, .int (nI p0)), (5, .int (nI x)), (6, .int (nI s3))], [.int 0], M)) rfl rfl rfl ?_
      refine ps_st (S' := (268, [(0, .ref m0), (1, .int 2), (3, .int (nI p0)), (5, .int (nI x)), (6, .int (nI s3)), (9, .int 0)], [], M)) rfl rfl rfl ?_
      exact (LL kf) (0) M I R hR hEI hER hi51 hi52 hi53 hF hY hP ((fe_c (by decide) (by omega)).trans (congrArg some (by omega))) (by omega) (by omega) (rfl)
    · have c_240 : ¬ ((nI (e - p0)) = (nI (2 + 2 * (by2 f p0)))) := of_decide_eq_false c_240
      have n_240 : ¬ (e - p0 = 2 + 2 * (by2 f p0)) := fun h9 => c_240 ((eq_nI (p := e - p0) (n := 2 + 2 * (by2 f p0)) (by omega) (by omega)).mpr h9)
      refine ps_st (S' := (245, [], [.int 30], M)) rfl rfl rfl ?_
      exact ps_ret rfl rfl (Or.inl ⟨I, R, (fun h9 => (by have h8 := Option.some.inj ((fe_c (by decide) (by omega)).symm.trans h9); omega)), rfl, hR, hEI, hER⟩)
set_option maxHeartbeats 4000000 in
theorem rd_attr7 {g : xe_G} {m0 : Nat} {q : Nat → Nat} {z : Nat × Nat} {I : rI} {R : rR} {M : mi_H} {n : Nat} {f : Nat → Int32} {tx : List (List Nat)} {cN : Nat} {A : Nat → Nat} {N mj : Nat} {E : List (Nat × Nat)} {p0 e x s3 : Nat} {t : Int32} (hR : RS g m0 q z I R M) (hi51 : I 51 = some 0) (hi52 : I 52 = some (nI N)) (hi53 : I 53 = some (nI mj)) (hF : FK n f I R) (hY : SYT tx cN A I R) (hP : RPV f n E tx N I R) (hEP : EP f n E) (hN : N < 65536) (hmj : mj < 65536) (he : p0 ≤ e ∧ e ≤ n) (hs3 : s3 < 2048) : pt (mT g) 177 [.ref m0, .int 7, .int t, .int (nI p0), .int (nI e), .int (nI x), .int (nI s3)] M (fun v M' => (∃  (I' : rI) (R' : rR), (¬ s_fe f 8 p0 e = some e) ∧ v = some (.int 30) ∧ RS g m0 q z I' R' M' ∧ eqI [68] I I' ∧ eqR [] R R') ∨ (∃  (I' : rI) (R' : rR), (s_fe f 8 p0 e = some e) ∧ (clA f E (p0 + 2) (by2 f p0) 0 = 0 ∨ ¬ sb s3 6 = 0) ∧ v = some (.int 35) ∧ RS g m0 q z I' R' M' ∧ eqI [68] I I' ∧ eqR [] R R') ∨ (∃  (I' : rI) (R' : rR), (s_fe f 8 p0 e = some e) ∧ (¬ clA f E (p0 + 2) (by2 f p0) 0 = 0 ∧ sb s3 6 = 0) ∧ v = some (.int 0) ∧ RS g m0 q z I' R' M' ∧ eqI [68] I I' ∧ eqR [] R R' ∧ I' 68 = some (nI (by2 f p0)))) := by
  refine pt_in (b := mb_177 g) rfl (fun kf => ?_)
  show pl (mT g) kf (mb_177 g).2 (0, [(0, .ref m0), (1, .int 7), (2, .int t), (3, .int (nI p0)), (4, .int (nI e)), (5, .int (nI x)), (6, .int (nI s3))], [], M) _
  have hEI : eqI [68] I I := eqI.rf
  have hER : eqR [] R R := eqR.rf
  have hn := hF.1
  have LL : ∀ (kf : Nat), (∀ (i : Nat) (M1 : mi_H) (I1 : rI) (R1 : rR), (RS g m0 q z I1 R1 M1) → (eqI [68] I I1) → (eqR [] R R1) → (I1 51 = some 0) → (I1 52 = some (nI N)) → (I1 53 = some (nI mj)) → (FK n f I1 R1) → (SYT tx cN A I1 R1) → (RPV f n E tx N I1 R1) → (s_fe f 8 p0 e = some e) → (i ≤ by2 f p0) → (p0 + 2 + 2 * by2 f p0 = e) → (clA f E (p0 + 2) (by2 f p0 - i) i = clA f E (p0 + 2) (by2 f p0) 0) →  pl (mT g) kf (mb_177 g).2 (268, [(0, .ref m0), (1, .int 7), (3, .int (nI p0)), (5, .int (nI x)), (6, .int (nI s3)), (9, .int (nI i))], [], M1) (fun v M' => (∃  (I' : rI) (R' : rR), (¬ s_fe f 8 p0 e = some e) ∧ v = some (.int 30) ∧ RS g m0 q z I' R' M' ∧ eqI [68] I I' ∧ eqR [] R R') ∨ (∃  (I' : rI) (R' : rR), (s_fe f 8 p0 e = some e) ∧ (clA f E (p0 + 2) (by2 f p0) 0 = 0 ∨ ¬ sb s3 6 = 0) ∧ v = some (.int 35) ∧ RS g m0 q z I' R' M' ∧ eqI [68] I I' ∧ eqR [] R R') ∨ (∃  (I' : rI) (R' : rR), (s_fe f 8 p0 e = some e) ∧ (¬ clA f E (p0 + 2) (by2 f p0) 0 = 0 ∧ sb s3 6 = 0) ∧ v = some (.int 0) ∧ RS g m0 q z I' R' M' ∧ eqI [68] I I' ∧ eqR [] R R' ∧ I' 68 = some (nI (by2 f p0))))) := by
    intro kf
    induction kf with
    | zero => exact (by intros; exact pl_0)
    | succ kf ih =>
      intro i M1 I1 R1 hR1 hEI1 hER1 hl51 hl52 hl53 hF1 hY1 hP1 hfe hi hle hs
      have hn := hF1.1
      have hu9 := by2_lt f p0
      have hs6 := sb_lt s3 6
      have hs7 := sb_lt s3 7
      refine ps_st1 (S' := (270, [(0, .ref m0), (1, .int 7), (3, .int (nI p0)), (5, .int (nI x)), (6, .int (nI s3)), (9, .int (nI i))], [.int (nI i)], M1)) rfl rfl rfl ?_
      refine ps_st (S' := (271, [(0, .ref m0), (1, .int 7), (3, .int (nI p0)), (5, .int (nI x)), (6, .int (nI s3)), (9, .int (nI i))], [.ref m0, .int (nI i)], M1)) rfl rfl rfl ?_
      refine ps_st (S' := (272, [(0, .ref m0), (1, .int 7), (3, .int (nI p0)), (5, .int (nI x)), (6, .int (nI s3)), (9, .int (nI i))], [.int (nI p0), .ref m0, .int (nI i)], M1)) rfl rfl rfl ?_
      refine pl_call (a := [.ref m0, .int (nI p0)]) (rest := [.int (nI i)]) rfl rfl rfl (rd_u2 (n := n) (f := f) (p := p0) hR1 hF1 (by omega)) (fun v1 M2 q3 => ?_)
      obtain ⟨rfl, rfl⟩ := q3
      show pl _ _ _ (275, [(0, .ref m0), (1, .int 7), (3, .int (nI p0)), (5, .int (nI x)), (6, .int (nI s3)), (9, .int (nI i))], [.int (nI (by2 f p0)), .int (nI i)], M1) _
      have hu_272 := by2_lt f p0
      refine ps_if2 (S1 := (329, [(0, .ref m0), (1, .int 7), (3, .int (nI p0)), (5, .int (nI x)), (6, .int (nI s3)), (9, .int (nI i))], [], M1)) (S2 := (278, [(0, .ref m0), (1, .int 7), (3, .int (nI p0)), (5, .int (nI x)), (6, .int (nI s3)), (9, .int (nI i))], [], M1)) rfl rfl rfl (fun c_275 => ?_) (fun c_275 => ?_)
      · have c_275 : (nI (by2 f p0)) ≤ (nI i) := of_decide_eq_true c_275
        have n_275 : by2 f p0 ≤ i := (le_nI (p := by2 f p0) (n := i) (Nat.lt_trans (by2_lt _ _) (by decide)) (by omega)).mp c_275
        refine ps_st (S' := (330, [(0, .ref m0), (1, .int 7), (3, .int (nI p0)), (5, .int (nI x)), (6, .int (nI s3)), (9, .int (nI i))], [.int 7], M1)) rfl rfl rfl ?_
        refine ps_st (S' := (332, [(0, .ref m0), (1, .int 7), (3, .int (nI p0)), (5, .int (nI x)), (6, .int (nI s3)), (9, .int (nI i))], [.int 7, .int 7], M1)) rfl rfl rfl ?_
        refine ps_if2 (S1 := (349, [(0, .ref m0), (1, .int 7), (3, .int (nI p0)), (5, .int (nI x))], [], M1)) (S2 := (335, [(0, .ref m0), (1, .int 7), (3, .int (nI p0)), (5, .int (nI x)), (6, .int (nI s3)), (9, .int (nI i))], [], M1)) rfl rfl rfl (fun c_332 => ?_) (fun c_332 => ?_)
        · exact absurd (of_decide_eq_true c_332) (by decide)
        refine ps_st (S' := (337, [(0, .ref m0), (1, .int 7), (3, .int (nI p0)), (5, .int (nI x)), (6, .int (nI s3)), (9, .int (nI i))], [.int (nI s3)], M1)) rfl rfl rfl ?_
        refine ps_st (S' := (339, [(0, .ref m0), (1, .int 7), (3, .int (nI p0)), (5, .int (nI x)), (6, .int (nI s3)), (9, .int (nI i))], [.int 6, .int (nI s3)], M1)) rfl rfl rfl ?_
        refine ps_st (S' := (340, [(0, .ref m0), (1, .int 7), (3, .int (nI p0)), (5, .int (nI x)), (6, .int (nI s3)), (9, .int (nI i))], [.int ((nI s3) >>> (6 &&& 31))], M1)) rfl rfl rfl ?_
        refine ps_st (S' := (341, [(0, .ref m0), (1, .int 7), (3, .int (nI p0)), (5, .int (nI x)), (6, .int (nI s3)), (9, .int (nI i))], [.int 1, .int ((nI s3) >>> (6 &&& 31))], M1)) rfl rfl rfl ?_
        refine ps_st (S' := (342, [(0, .ref m0), (1, .int 7), (3, .int (nI p0)), (5, .int (nI x)), (6, .int (nI s3)), (9, .int (nI i))], [.int (((nI s3) >>> (6 &&& 31)) &&& 1)], M1)) rfl rfl rfl ?_
        rw [show (nI s3 >>> (6 &&& 31)) &&& 1 = nI (sb s3 6) from shr_k s3 (by omega) 6 (by decide)]
        show pl _ _ _ (_, [(0, .ref m0), (1, .int 7), (3, .int (nI p0)), (5, .int (nI x)), (6, .int (nI s3)), (9, .int (nI i))], [.int (nI (sb s3 6))], M1) _
        refine ps_st (S' := (343, [(0, .ref m0), (1, .int 7), (3, .int (nI p0)), (5, .int (nI x)), (6, .int (nI s3)), (9, .int (nI i))], [.int 1, .int (nI (sb s3 6))], M1)) rfl rfl rfl ?_
        refine ps_if2 (S1 := (349, [(0, .ref m0), (1, .int 7), (3, .int (nI p0)), (5, .int (nI x))], [], M1)) (S2 := (346, [(0, .ref m0), (1, .int 7), (3, .int (nI p0)), (5, .int (nI x)), (6, .int (nI s3)), (9, .int (nI i))], [], M1)) rfl rfl rfl (fun c_343 => ?_) (fun c_343 => ?_)
        · have c_343 : ¬ (nI (sb s3 6)) = 1 := of_decide_eq_true c_343
          have n_343 : ¬ (sb s3 6 = 1) := fun h9 => c_343 ((eq_nI (p := sb s3 6) (n := 1) (Nat.lt_trans (sb_lt _ _) (by decide)) (by decide)).mpr h9)
          refine ps_st (S' := (350, [(0, .ref m0), (1, .int 7), (3, .int (nI p0)), (5, .int (nI x))], [.int 7], M1)) rfl rfl rfl ?_
          refine ps_st (S' := (351, [(0, .ref m0), (1, .int 7), (3, .int (nI p0)), (5, .int (nI x))], [.int 2, .int 7], M1)) rfl rfl rfl ?_
          refine ps_if2 (S1 := (366, [(0, .ref m0), (1, .int 7), (3, .int (nI p0))], [], M1)) (S2 := (354, [(0, .ref m0), (1, .int 7), (3, .int (nI p0)), (5, .int (nI x))], [], M1)) rfl rfl rfl (fun c_351 => ?_) (fun c_351 => ?_)
          rotate_left
          · exact absurd (by decide) (of_decide_eq_false c_351)
          refine ps_st (S' := (367, [(0, .ref m0), (1, .int 7), (3, .int (nI p0))], [.int 7], M1)) rfl rfl rfl ?_
          refine ps_st (S' := (369, [(0, .ref m0), (1, .int 7), (3, .int (nI p0))], [.int 7, .int 7], M1)) rfl rfl rfl ?_
          refine ps_if2 (S1 := (381, [(0, .ref m0), (1, .int 7), (3, .int (nI p0))], [], M1)) (S2 := (372, [(0, .ref m0), (1, .int 7), (3, .int (nI p0))], [], M1)) rfl rfl rfl (fun c_369 => ?_) (fun c_369 => ?_)
          · exact absurd (of_decide_eq_true c_369) (by decide)
          refine ps_st (S' := (373, [(0, .ref m0), (1, .int 7), (3, .int (nI p0))], [.ref m0], M1)) rfl rfl rfl ?_
          refine ps_st (S' := (374, [(0, .ref m0), (1, .int 7), (3, .int (nI p0))], [.ref m0, .ref m0], M1)) rfl rfl rfl ?_
          refine ps_st (S' := (375, [(0, .ref m0), (1, .int 7), (3, .int (nI p0))], [.int (nI p0), .ref m0, .ref m0], M1)) rfl rfl rfl ?_
          refine pl_call (a := [.ref m0, .int (nI p0)]) (rest := [.ref m0]) rfl rfl rfl (rd_u2 (n := n) (f := f) (p := p0) hR1 hF1 (by omega)) (fun v4 M5 q6 => ?_)
          obtain ⟨rfl, rfl⟩ := q6
          show pl _ _ _ (378, [(0, .ref m0), (1, .int 7), (3, .int (nI p0))], [.int (nI (by2 f p0)), .ref m0], M1) _
          have hu_375 := by2_lt f p0
          refine pr_put (j := 68) rfl hR1 rfl (fun M7 I8 hR9 hi10 hI11 => ?_)
          have hi12 := (hI11 51 (by decide)).trans hl51
          have hi13 := (hI11 52 (by decide)).trans hl52
          have hi14 := (hI11 53 (by decide)).trans hl53
          have hF_15 := hF1.mono (pIx hI11 (by decide)) (fun _ _ => rfl)
          have hY_16 := hY1.mono (pIx hI11 (by decide)) (fun _ _ => rfl)
          have hP_17 := hP1.mono (pIx hI11 (by decide)) (fun _ _ => rfl)
          have hEI18 := hEI1.put hI11 (by decide)
          show pl _ _ _ (381, [(0, .ref m0), (1, .int 7), (3, .int (nI p0))], [], M7) _
          refine ps_st (S' := (382, [(0, .ref m0), (1, .int 7), (3, .int (nI p0))], [.int 7], M7)) rfl rfl rfl ?_
          refine ps_st (S' := (384, [(0, .ref m0), (1, .int 7), (3, .int (nI p0))], [.int 9, .int 7], M7)) rfl rfl rfl ?_
          refine ps_if2 (S1 := (396, [], [], M7)) (S2 := (387, [(0, .ref m0), (1, .int 7), (3, .int (nI p0))], [], M7)) rfl rfl rfl (fun c_384 => ?_) (fun c_384 => ?_)
          rotate_left
          · exact absurd (by decide) (of_decide_eq_false c_384)
          refine ps_st (S' := (397, [], [.int 0], M7)) rfl rfl rfl ?_
          exact ps_ret rfl rfl (Or.inr (Or.inr ⟨I8, R1, hfe, ⟨by rw [← hs, show by2 f p0 - i = 0 by omega]; exact Nat.one_ne_zero, by omega⟩, rfl, hR9, hEI18, hER1, hi10⟩))
        · have c_343 : ¬ (¬ (nI (sb s3 6)) = 1) := of_decide_eq_false c_343
          have n_343 : sb s3 6 = 1 := (eq_nI (p := sb s3 6) (n := 1) (Nat.lt_trans (sb_lt _ _) (by decide)) (by decide)).mp (Decidable.not_not.mp c_343)
          refine ps_st (S' := (348, [(0, .ref m0), (1, .int 7), (3, .int (nI p0)), (5, .int (nI x)), (6, .int (nI s3)), (9, .int (nI i))], [.int 35], M1)) rfl rfl rfl ?_
          exact ps_ret rfl rfl (Or.inr (Or.inl ⟨I1, R1, hfe, Or.inr (by omega), rfl, hR1, hEI1, hER1⟩))
      · have c_275 : ¬ ((nI (by2 f p0)) ≤ (nI i)) := of_decide_eq_false c_275
        have n_275 : ¬ (by2 f p0 ≤ i) := fun h9 => c_275 ((le_nI (p := by2 f p0) (n := i) (Nat.lt_trans (by2_lt _ _) (by decide)) (by omega)).mpr h9)
        refine ps_st (S' := (279, [(0, .ref m0), (1, .int 7), (3, .int (nI p0)), (5, .int (nI x)), (6, .int (nI s3)), (9, .int (nI i))], [.ref m0], M1)) rfl rfl rfl ?_
        refine ps_st (S' := (280, [(0, .ref m0), (1, .int 7), (3, .int (nI p0)), (5, .int (nI x)), (6, .int (nI s3)), (9, .int (nI i))], [.ref m0, .ref m0], M1)) rfl rfl rfl ?_
        refine ps_st (S' := (281, [(0, .ref m0), (1, .int 7), (3, .int (nI p0)), (5, .int (nI x)), (6, .int (nI s3)), (9, .int (nI i))], [.int (nI p0), .ref m0, .ref m0], M1)) rfl rfl rfl ?_
        refine ps_st (S' := (282, [(0, .ref m0), (1, .int 7), (3, .int (nI p0)), (5, .int (nI x)), (6, .int (nI s3)), (9, .int (nI i))], [.int 2, .int (nI p0), .ref m0, .ref m0], M1)) rfl rfl rfl ?_
        refine ps_st (S' := (283, [(0, .ref m0), (1, .int 7), (3, .int (nI p0)), (5, .int (nI x)), (6, .int (nI s3)), (9, .int (nI i))], [.int ((nI p0) + 2), .ref m0, .ref m0], M1)) rfl rfl rfl ?_
        rw [nI_add1 (p := p0) (k := 2) (x := 2) rfl (by omega)]
        show pl _ _ _ (_, [(0, .ref m0), (1, .int 7), (3, .int (nI p0)), (5, .int (nI x)), (6, .int (nI s3)), (9, .int (nI i))], [.int (nI (p0 + 2)), .ref m0, .ref m0], M1) _
        refine ps_st (S' := (284, [(0, .ref m0), (1, .int 7), (3, .int (nI p0)), (5, .int (nI x)), (6, .int (nI s3)), (9, .int (nI i))], [.int 2, .int (nI (p0 + 2)), .ref m0, .ref m0], M1)) rfl rfl rfl ?_
        refine ps_st (S' := (286, [(0, .ref m0), (1, .int 7), (3, .int (nI p0)), (5, .int (nI x)), (6, .int (nI s3)), (9, .int (nI i))], [.int (nI i), .int 2, .int (nI (p0 + 2)), .ref m0, .ref m0], M1)) rfl rfl rfl ?_
        refine ps_st (S' := (287, [(0, .ref m0), (1, .int 7), (3, .int (nI p0)), (5, .int (nI x)), (6, .int (nI s3)), (9, .int (nI i))], [.int (2 * (nI i)), .int (nI (p0 + 2)), .ref m0, .ref m0], M1)) rfl rfl rfl ?_
        rw [nI_mul1 (p := 2) (k := i) (x := 2) (y := (nI i)) rfl rfl (by omega)]
        show pl _ _ _ (_, [(0, .ref m0), (1, .int 7), (3, .int (nI p0)), (5, .int (nI x)), (6, .int (nI s3)), (9, .int (nI i))], [.int (nI (2 * i)), .int (nI (p0 + 2)), .ref m0, .ref m0], M1) _
        refine ps_st (S' := (288, [(0, .ref m0), (1, .int 7), (3, .int (nI p0)), (5, .int (nI x)), (6, .int (nI s3)), (9, .int (nI i))], [.int ((nI (p0 + 2)) + (nI (2 * i))), .ref m0, .ref m0], M1)) rfl rfl rfl ?_
        rw [nI_add1 (p := p0 + 2) (k := 2 * i) (x := (nI (2 * i))) rfl (by omega)]
        show pl _ _ _ (_, [(0, .ref m0), (1, .int 7), (3, .int (nI p0)), (5, .int (nI x)), (6, .int (nI s3)), (9, .int (nI i))], [.int (nI (p0 + 2 + 2 * i)), .ref m0, .ref m0], M1) _
        refine pl_call (a := [.ref m0, .int (nI (p0 + 2 + 2 * i))]) (rest := [.ref m0]) rfl rfl rfl (rd_u2 (n := n) (f := f) (p := (p0 + 2 + 2 * i)) hR1 hF1 (by omega)) (fun v19 M20 q21 => ?_)
        obtain ⟨rfl, rfl⟩ := q21
        show pl _ _ _ (291, [(0, .ref m0), (1, .int 7), (3, .int (nI p0)), (5, .int (nI x)), (6, .int (nI s3)), (9, .int (nI i))], [.int (nI (by2 f (p0 + 2 + 2 * i))), .ref m0], M1) _
        have hu_288 := by2_lt f (p0 + 2 + 2 * i)
        refine pl_call (a := [.ref m0, .int (nI (by2 f (p0 + 2 + 2 * i)))]) (rest := []) rfl rfl rfl (rd_tag (n := n) (f := f) (tx := tx) (cN := cN) (A := A) (N := N) (mj := mj) (E := E) (k := (by2 f (p0 + 2 + 2 * i))) hR1 hl51 hl52 hl53 hF1 hY1 hP1 (hEP) (hN) (hmj) (by2_lt _ _)) (fun v22 M23 q24 => ?_)
        obtain ⟨rfl, rfl⟩ := q24
        show pl _ _ _ (294, [(0, .ref m0), (1, .int 7), (3, .int (nI p0)), (5, .int (nI x)), (6, .int (nI s3)), (9, .int (nI i))], [.int (nI (tg f E (by2 f (p0 + 2 + 2 * i))))], M1) _
        have htg_291 := tg_lt f E (by2 f (p0 + 2 + 2 * i))
        refine ps_st (S' := (296, [(0, .ref m0), (1, .int 7), (3, .int (nI p0)), (5, .int (nI x)), (6, .int (nI s3)), (9, .int (nI i))], [.int 7, .int (nI (tg f E (by2 f (p0 + 2 + 2 * i))))], M1)) rfl rfl rfl ?_
        refine ps_if2 (S1 := (323, [(0, .ref m0), (1, .int 7), (3, .int (nI p0)), (5, .int (nI x)), (6, .int (nI s3)), (9, .int (nI i))], [], M1)) (S2 := (299, [(0, .ref m0), (1, .int 7), (3, .int (nI p0)), (5, .int (nI x)), (6, .int (nI s3)), (9, .int (nI i))], [], M1)) rfl rfl rfl (fun c_296 => ?_) (fun c_296 => ?_)
        · have c_296 : (nI (tg f E (by2 f (p0 + 2 + 2 * i)))) = 7 := of_decide_eq_true c_296
          have n_296 : tg f E (by2 f (p0 + 2 + 2 * i)) = 7 := (eq_nI (p := tg f E (by2 f (p0 + 2 + 2 * i))) (n := 7) (Nat.lt_trans (tg_lt _ _ _) (by decide)) (by decide)).mp c_296
          refine ps_st (S' := (326, [(9, .int ((nI i) + 1)), (0, .ref m0), (1, .int 7), (3, .int (nI p0)), (5, .int (nI x)), (6, .int (nI s3))], [], M1)) rfl rfl rfl ?_
          rw [nI_add1 (p := i) (k := 1) (x := 1) rfl (by omega)]
          show pl _ _ _ (_, [(9, .int (nI (i + 1))), (0, .ref m0), (1, .int 7), (3, .int (nI p0)), (5, .int (nI x)), (6, .int (nI s3))], [], M1) _
          refine ps_st (S' := (268, [(0, .ref m0), (1, .int 7), (3, .int (nI p0)), (5, .int (nI x)), (6, .int (nI s3)), (9, .int (nI (i + 1)))], [], M1)) rfl rfl rfl ?_
          exact ih (i + 1) M1 I1 R1 hR1 hEI1 hER1 hl51 hl52 hl53 hF1 hY1 hP1 (hfe) (by omega) (hle) (by
              rw [← hs, clA_st (i := i) (by omega), if_pos (by omega)])
        · have c_296 : ¬ ((nI (tg f E (by2 f (p0 + 2 + 2 * i)))) = 7) := of_decide_eq_false c_296
          have n_296 : ¬ (tg f E (by2 f (p0 + 2 + 2 * i)) = 7) := fun h9 => c_296 ((eq_nI (p := tg f E (by2 f (p0 + 2 + 2 * i))) (n := 7) (Nat.lt_trans (tg_lt _ _ _) (by decide)) (by decide)).mpr h9)
          refine ps_st (S' := (300, [(0, .ref m0), (1, .int 7), (3, .int (nI p0)), (5, .int (nI x)), (6, .int (nI s3)), (9, .int (nI i))], [.int 7], M1)) rfl rfl rfl ?_
          refine ps_st (S' := (301, [(0, .ref m0), (1, .int 7), (3, .int (nI p0)), (5, .int (nI x)), (6, .int (nI s3)), (9, .int (nI i))], [.int 2, .int 7], M1)) rfl rfl rfl ?_
          refine ps_if2 (S1 := (309, [(0, .ref m0), (1, .int 7), (3, .int (nI p0)), (5, .int (nI x)), (6, .int (nI s3)), (9, .int (nI i))], [], M1)) (S2 := (304, [(0, .ref m0), (1, .int 7), (3, .int (nI p0)), (5, .int (nI x)), (6, .int (nI s3)), (9, .int (nI i))], [], M1)) rfl rfl rfl (fun c_301 => ?_) (fun c_301 => ?_)
          rotate_left
          · exact absurd (by decide) (of_decide_eq_false c_301)
          refine ps_st (S' := (310, [(0, .ref m0), (1, .int 7), (3, .int (nI p0)), (5, .int (nI x)), (6, .int (nI s3)), (9, .int (nI i))], [.int 7], M1)) rfl rfl rfl ?_
          refine ps_st (S' := (312, [(0, .ref m0), (1, .int 7), (3, .int (nI p0)), (5, .int (nI x)), (6, .int (nI s3)), (9, .int (nI i))], [.int 7, .int 7], M1)) rfl rfl rfl ?_
          refine ps_if2 (S1 := (320, [(0, .ref m0), (1, .int 7), (3, .int (nI p0)), (5, .int (nI x)), (6, .int (nI s3)), (9, .int (nI i))], [], M1)) (S2 := (315, [(0, .ref m0), (1, .int 7), (3, .int (nI p0)), (5, .int (nI x)), (6, .int (nI s3)), (9, .int (nI i))], [], M1)) rfl rfl rfl (fun c_312 => ?_) (fun c_312 => ?_)
          · exact absurd (of_decide_eq_true c_312) (by decide)
          refine ps_st (S' := (317, [(0, .ref m0), (1, .int 7), (3, .int (nI p0)), (5, .int (nI x)), (6, .int (nI s3)), (9, .int (nI i))], [.int 35], M1)) rfl rfl rfl ?_
          refine ps_st (S' := (322, [], [.int 35], M1)) rfl rfl rfl ?_
          exact ps_ret rfl rfl (Or.inr (Or.inl ⟨I1, R1, hfe, Or.inl (by rw [← hs, clA_st (i := i) (by omega), if_neg (by omega)]), rfl, hR1, hEI1, hER1⟩))
  refine ps_st (S' := (1, [(0, .ref m0), (1, .int 7), (2, .int t), (3, .int (nI p0)), (4, .int (nI e)), (5, .int (nI x)), (6, .int (nI s3))], [.int 7], M)) rfl rfl rfl ?_
  refine ps_st (S' := (219, [(0, .ref m0), (1, .int 7), (2, .int t), (3, .int (nI p0)), (4, .int (nI e)), (5, .int (nI x)), (6, .int (nI s3))], [], M)) rfl rfl rfl ?_
  refine ps_st (S' := (221, [(0, .ref m0), (1, .int 7), (2, .int t), (3, .int (nI p0)), (4, .int (nI e)), (5, .int (nI x)), (6, .int (nI s3))], [.int (nI e)], M)) rfl rfl rfl ?_
  refine ps_st (S' := (222, [(0, .ref m0), (1, .int 7), (2, .int t), (3, .int (nI p0)), (4, .int (nI e)), (5, .int (nI x)), (6, .int (nI s3))], [.int (nI p0), .int (nI e)], M)) rfl rfl rfl ?_
  refine ps_st (S' := (223, [(0, .ref m0), (1, .int 7), (2, .int t), (3, .int (nI p0)), (4, .int (nI e)), (5, .int (nI x)), (6, .int (nI s3))], [.int ((nI e) - (nI p0))], M)) rfl rfl rfl ?_
  rw [nI_sub1 (p := e) (k := p0) (x := (nI p0)) rfl (by omega) (by omega)]
  show pl _ _ _ (_, [(0, .ref m0), (1, .int 7), (2, .int t), (3, .int (nI p0)), (4, .int (nI e)), (5, .int (nI x)), (6, .int (nI s3))], [.int (nI (e - p0))], M) _
  refine ps_st (S' := (224, [(0, .ref m0), (1, .int 7), (2, .int t), (3, .int (nI p0)), (4, .int (nI e)), (5, .int (nI x)), (6, .int (nI s3))], [.int 2, .int (nI (e - p0))], M)) rfl rfl rfl ?_
  refine ps_if2 (S1 := (243, [], [], M)) (S2 := (227, [(0, .ref m0), (1, .int 7), (2, .int t), (3, .int (nI p0)), (4, .int (nI e)), (5, .int (nI x)), (6, .int (nI s3))], [], M)) rfl rfl rfl (fun c_224 => ?_) (fun c_224 => ?_)
  · have c_224 : (nI (e - p0)) < 2 := of_decide_eq_true c_224
    have n_224 : e - p0 < 2 := (lt_nI (p := e - p0) (n := 2) (by omega) (by decide)).mp c_224
    refine ps_st (S' := (245, [], [.int 30], M)) rfl rfl rfl ?_
    exact ps_ret rfl rfl (Or.inl ⟨I, R, fe_2 (by omega), rfl, hR, hEI, hER⟩)
  · have c_224 : ¬ ((nI (e - p0)) < 2) := of_decide_eq_false c_224
    have n_224 : ¬ (e - p0 < 2) := fun h9 => c_224 ((lt_nI (p := e - p0) (n := 2) (by omega) (by decide)).mpr h9)
    refine ps_st (S' := (229, [(0, .ref m0), (1, .int 7), (2, .int t), (3, .int (nI p0)), (4, .int (nI e)), (5, .int (nI x)), (6, .int (nI s3))], [.int (nI e)], M)) rfl rfl rfl ?_
    refine ps_st (S' := (230, [(0, .ref m0), (1, .int 7), (2, .int t), (3, .int (nI p0)), (4, .int (nI e)), (5, .int (nI x)), (6, .int (nI s3))], [.int (nI p0), .int (nI e)], M)) rfl rfl rfl ?_
    refine ps_st (S' := (231, [(0, .ref m0), (1, .int 7), (2, .int t), (3, .int (nI p0)), (4, .int (nI e)), (5, .int (nI x)), (6, .int (nI s3))], [.int ((nI e) - (nI p0))], M)) rfl rfl rfl ?_
    rw [nI_sub1 (p := e) (k := p0) (x := (nI p0)) rfl (by omega) (by omega)]
    show pl _ _ _ (_, [(0, .ref m0), (1, .int 7), (2, .int t), (3, .int (nI p0)), (4, .int (nI e)), (5, .int (nI x)), (6, .int (nI s3))], [.int (nI (e - p0))], M) _
    refine ps_st (S' := (232, [(0, .ref m0), (1, .int 7), (2, .int t), (3, .int (nI p0)), (4, .int (nI e)), (5, .int (nI x)), (6, .int (nI s3))], [.int 2, .int (nI (e - p0))], M)) rfl rfl rfl ?_
    refine ps_st (S' := (233, [(0, .ref m0), (1, .int 7), (2, .int t), (3, .int (nI p0)), (4, .int (nI e)), (5, .int (nI x)), (6, .int (nI s3))], [.int 2, .int 2, .int (nI (e - p0))], M)) rfl rfl rfl ?_
    refine ps_st (S' := (234, [(0, .ref m0), (1, .int 7), (2, .int t), (3, .int (nI p0)), (4, .int (nI e)), (5, .int (nI x)), (6, .int (nI s3))], [.ref m0, .int 2, .int 2, .int (nI (e - p0))], M)) rfl rfl rfl ?_
    refine ps_st (S' := (235, [(0, .ref m0), (1, .int 7), (2, .int t), (3, .int (nI p0)), (4, .int (nI e)), (5, .int (nI x)), (6, .int (nI s3))], [.int (nI p0), .ref m0, .int 2, .int 2, .int (nI (e - p0))], M)) rfl rfl rfl ?_
    refine pl_call (a := [.ref m0, .int (nI p0)]) (rest := [.int 2, .int 2, .int (nI (e - p0))]) rfl rfl rfl (rd_u2 (n := n) (f := f) (p := p0) hR hF (by omega)) (fun v25 M26 q27 => ?_)
    obtain ⟨rfl, rfl⟩ := q27
    show pl _ _ _ (238, [(0, .ref m0), (1, .int 7), (2, .int t), (3, .int (nI p0)), (4, .int (nI e)), (5, .int (nI x)), (6, .int (nI s3))], [.int (nI (by2 f p0)), .int 2, .int 2, .int (nI (e - p0))], M) _
    have hu_235 := by2_lt f p0
    refine ps_st (S' := (239, [(0, .ref m0), (1, .int 7), (2, .int t), (3, .int (nI p0)), (4, .int (nI e)), (5, .int (nI x)), (6, .int (nI s3))], [.int (2 * (nI (by2 f p0))), .int 2, .int (nI (e - p0))], M)) rfl rfl rfl ?_
    rw [nI_mul1 (p := 2) (k := by2 f p0) (x := 2) (y := (nI (by2 f p0))) rfl rfl (by omega)]
    show pl _ _ _ (_, [(0, .ref m0), (1, .int 7), (2, .int t), (3, .int (nI p0)), (4, .int (nI e)), (5, .int (nI x)), (6, .int (nI s3))], [.int (nI (2 * (by2 f p0))), .int 2, .int (nI (e - p0))], M) _
    refine ps_st (S' := (240, [(0, .ref m0), (1, .int 7), (2, .int t), (3, .int (nI p0)), (4, .int (nI e)), (5, .int (nI x)), (6, .int (nI s3))], [.int (2 + (nI (2 * (by2 f p0)))), .int (nI (e - p0))], M)) rfl rfl rfl ?_
    rw [nI_add2 (p := 2) (k := 2 * (by2 f p0)) (x := 2) (y := (nI (2 * (by2 f p0)))) rfl rfl (by omega)]
    show pl _ _ _ (_, [(0, .ref m0), (1, .int 7), (2, .int t), (3, .int (nI p0)), (4, .int (nI e)), (5, .int (nI x)), (6, .int (nI s3))], [.int (nI (2 + 2 * (by2 f p0))), .int (nI (e - p0))], M) _
    refine ps_if2 (S1 := (246, [(0, .ref m0), (1, .int 7), (2, .int t), (3, .int (nI p0)), (4, .int (nI e)), (5, .int (nI x)), (6, .int (nI s3))], [], M)) (S2 := (243, [], [], M)) rfl rfl rfl (fun c_240 => ?_) (fun c_240 => ?_)
    · have c_240 : (nI (e - p0)) = (nI (2 + 2 * (by2 f p0))) := of_decide_eq_true c_240
      have n_240 : e - p0 = 2 + 2 * (by2 f p0) := (eq_nI (p := e - p0) (n := 2 + 2 * (by2 f p0)) (by omega) (by omega)).mp c_240
      refine ps_st (S' := (247, [(0, .ref m0), (1, .int 7), (2, .int t), (3, .int (nI p0)), (4, .int (nI e)), (5, .int (nI x)), (6, .int (nI s3))], [.int 7], M)) rfl rfl rfl ?_
      refine ps_st (S' := (249, [(0, .ref m0), (1, .int 7), (2, .int t), (3, .int (nI p0)), (4, .int (nI e)), (5, .int (nI x)), (6, .int (nI s3))], [.int 9, .int 7], M)) rfl rfl rfl ?_
      refine ps_if2 (S1 := (265, [(0, .ref m0), (1, .int 7), (3, .int (nI p0)), (5, .int (nI x)), (6, .int (nI s3))], [], M)) (S2 := (252, [(0, .ref m0), (1, .int 7), (2, .int t), (3, .int (nI p0)), (4, .int (nI e)), (5, .int (nI x)), (6, .int (nI s3))], [], M)) rfl rfl rfl (fun c_249 => ?_) (fun c_249 => ?_)
      rotate_left
      · exact absurd (by decide) (of_decide_eq_false c_249)
      refine ps_st (S' := (266, [(0, .ref m0), (1, .int 7), (3, .int (nI p0)), (5, .int (nI x)), (6, .int (nI s3))], [.int 0], M)) rfl rfl rfl ?_
      refine ps_st (S' := (268, [(0, .ref m0), (1, .int 7), (3, .int (nI p0)), (5, .int (nI x)), (6, .int (nI s3)), (9, .int 0)], [], M)) rfl rfl rfl ?_
      exact (LL kf) (0) M I R hR hEI hER hi51 hi52 hi53 hF hY hP ((fe_c (by decide) (by omega)).trans (congrArg some (by omega))) (by omega) (by omega) (rfl)
    · have c_240 : ¬ ((nI (e - p0)) = (nI (2 + 2 * (by2 f p0)))) := of_decide_eq_false c_240
      have n_240 : ¬ (e - p0 = 2 + 2 * (by2 f p0)) := fun h9 => c_240 ((eq_nI (p := e - p0) (n := 2 + 2 * (by2 f p0)) (by omega) (by omega)).mpr h9)
      refine ps_st (S' := (245, [], [.int 30], M)) rfl rfl rfl ?_
      exact ps_ret rfl rfl (Or.inl ⟨I, R, (fun h9 => (by have h8 := Option.some.inj ((fe_c (by decide) (by omega)).symm.trans h9); omega)), rfl, hR, hEI, hER⟩)
set_option maxHeartbeats 4000000 in
theorem rd_attr9 {g : xe_G} {m0 : Nat} {q : Nat → Nat} {z : Nat × Nat} {I : rI} {R : rR} {M : mi_H} {n : Nat} {f : Nat → Int32} {tx : List (List Nat)} {cN : Nat} {A : Nat → Nat} {N mj : Nat} {E : List (Nat × Nat)} {p0 e x s3 : Nat} {t : Int32} {fl : Nat} (hR : RS g m0 q z I R M) (hi51 : I 51 = some 0) (hi52 : I 52 = some (nI N)) (hi53 : I 53 = some (nI mj)) (hi58 : I 58 = some (nI fl)) (hF : FK n f I R) (hY : SYT tx cN A I R) (hP : RPV f n E tx N I R) (hEP : EP f n E) (hN : N < 65536) (hmj : mj < 65536) (he : p0 ≤ e ∧ e ≤ n) (hs3 : s3 < 2048) (hf6 : fl < 65536) : pt (mT g) 177 [.ref m0, .int 9, .int t, .int (nI p0), .int (nI e), .int (nI x), .int (nI s3)] M (fun v M' => (∃  (I' : rI) (R' : rR), (¬ s_fe f 10 p0 e = some e) ∧ v = some (.int 30) ∧ RS g m0 q z I' R' M' ∧ eqI [69] I I' ∧ eqR [] R R') ∨ (∃  (I' : rI) (R' : rR), (s_fe f 10 p0 e = some e) ∧ (clA f E (p0 + 2) (by2 f p0) 0 = 0 ∨ ¬ aN fl 16 = 0) ∧ v = some (.int 36) ∧ RS g m0 q z I' R' M' ∧ eqI [69] I I' ∧ eqR [] R R') ∨ (∃  (I' : rI) (R' : rR), (s_fe f 10 p0 e = some e) ∧ (¬ clA f E (p0 + 2) (by2 f p0) 0 = 0 ∧ aN fl 16 = 0) ∧ v = some (.int 0) ∧ RS g m0 q z I' R' M' ∧ eqI [69] I I' ∧ eqR [] R R' ∧ I' 69 = some (nI (by2 f p0)))) := by
  refine pt_in (b := mb_177 g) rfl (fun kf => ?_)
  show pl (mT g) kf (mb_177 g).2 (0, [(0, .ref m0), (1, .int 9), (2, .int t), (3, .int (nI p0)), (4, .int (nI e)), (5, .int (nI x)), (6, .int (nI s3))], [], M) _
  have hEI : eqI [69] I I := eqI.rf
  have hER : eqR [] R R := eqR.rf
  have hn := hF.1
  have LL : ∀ (kf : Nat), (∀ (i : Nat) (M1 : mi_H) (I1 : rI) (R1 : rR), (RS g m0 q z I1 R1 M1) → (eqI [69] I I1) → (eqR [] R R1) → (I1 51 = some 0) → (I1 52 = some (nI N)) → (I1 53 = some (nI mj)) → (I1 58 = some (nI fl)) → (FK n f I1 R1) → (SYT tx cN A I1 R1) → (RPV f n E tx N I1 R1) → (s_fe f 10 p0 e = some e) → (i ≤ by2 f p0) → (p0 + 2 + 2 * by2 f p0 = e) → (clA f E (p0 + 2) (by2 f p0 - i) i = clA f E (p0 + 2) (by2 f p0) 0) → (aN fl 16 = 0) →  pl (mT g) kf (mb_177 g).2 (268, [(0, .ref m0), (1, .int 9), (3, .int (nI p0)), (5, .int (nI x)), (6, .int (nI s3)), (9, .int (nI i))], [], M1) (fun v M' => (∃  (I' : rI) (R' : rR), (¬ s_fe f 10 p0 e = some e) ∧ v = some (.int 30) ∧ RS g m0 q z I' R' M' ∧ eqI [69] I I' ∧ eqR [] R R') ∨ (∃  (I' : rI) (R' : rR), (s_fe f 10 p0 e = some e) ∧ (clA f E (p0 + 2) (by2 f p0) 0 = 0 ∨ ¬ aN fl 16 = 0) ∧ v = some (.int 36) ∧ RS g m0 q z I' R' M' ∧ eqI [69] I I' ∧ eqR [] R R') ∨ (∃  (I' : rI) (R' : rR), (s_fe f 10 p0 e = some e) ∧ (¬ clA f E (p0 + 2) (by2 f p0) 0 = 0 ∧ aN fl 16 = 0) ∧ v = some (.int 0) ∧ RS g m0 q z I' R' M' ∧ eqI [69] I I' ∧ eqR [] R R' ∧ I' 69 = some (nI (by2 f p0))))) := by
    intro kf
    induction kf with
    | zero => exact (by intros; exact pl_0)
    | succ kf ih =>
      intro i M1 I1 R1 hR1 hEI1 hER1 hl51 hl52 hl53 hl58 hF1 hY1 hP1 hfe hi hle hs h16
      have hn := hF1.1
      have hu9 := by2_lt f p0
      have hs6 := sb_lt s3 6
      have hs7 := sb_lt s3 7
      refine ps_st1 (S' := (270, [(0, .ref m0), (1, .int 9), (3, .int (nI p0)), (5, .int (nI x)), (6, .int (nI s3)), (9, .int (nI i))], [.int (nI i)], M1)) rfl rfl rfl ?_
      refine ps_st (S' := (271, [(0, .ref m0), (1, .int 9), (3, .int (nI p0)), (5, .int (nI x)), (6, .int (nI s3)), (9, .int (nI i))], [.ref m0, .int (nI i)], M1)) rfl rfl rfl ?_
      refine ps_st (S' := (272, [(0, .ref m0), (1, .int 9), (3, .int (nI p0)), (5, .int (nI x)), (6, .int (nI s3)), (9, .int (nI i))], [.int (nI p0), .ref m0, .int (nI i)], M1)) rfl rfl rfl ?_
      refine pl_call (a := [.ref m0, .int (nI p0)]) (rest := [.int (nI i)]) rfl rfl rfl (rd_u2 (n := n) (f := f) (p := p0) hR1 hF1 (by omega)) (fun v1 M2 q3 => ?_)
      obtain ⟨rfl, rfl⟩ := q3
      show pl _ _ _ (275, [(0, .ref m0), (1, .int 9), (3, .int (nI p0)), (5, .int (nI x)), (6, .int (nI s3)), (9, .int (nI i))], [.int (nI (by2 f p0)), .int (nI i)], M1) _
      have hu_272 := by2_lt f p0
      refine ps_if2 (S1 := (329, [(0, .ref m0), (1, .int 9), (3, .int (nI p0)), (5, .int (nI x)), (6, .int (nI s3)), (9, .int (nI i))], [], M1)) (S2 := (278, [(0, .ref m0), (1, .int 9), (3, .int (nI p0)), (5, .int (nI x)), (6, .int (nI s3)), (9, .int (nI i))], [], M1)) rfl rfl rfl (fun c_275 => ?_) (fun c_275 => ?_)
      · have c_275 : (nI (by2 f p0)) ≤ (nI i) := of_decide_eq_true c_275
        have n_275 : by2 f p0 ≤ i := (le_nI (p := by2 f p0) (n := i) (Nat.lt_trans (by2_lt _ _) (by decide)) (by omega)).mp c_275
        refine ps_st (S' := (330, [(0, .ref m0), (1, .int 9), (3, .int (nI p0)), (5, .int (nI x)), (6, .int (nI s3)), (9, .int (nI i))], [.int 9], M1)) rfl rfl rfl ?_
        refine ps_st (S' := (332, [(0, .ref m0), (1, .int 9), (3, .int (nI p0)), (5, .int (nI x)), (6, .int (nI s3)), (9, .int (nI i))], [.int 7, .int 9], M1)) rfl rfl rfl ?_
        refine ps_if2 (S1 := (349, [(0, .ref m0), (1, .int 9), (3, .int (nI p0)), (5, .int (nI x))], [], M1)) (S2 := (335, [(0, .ref m0), (1, .int 9), (3, .int (nI p0)), (5, .int (nI x)), (6, .int (nI s3)), (9, .int (nI i))], [], M1)) rfl rfl rfl (fun c_332 => ?_) (fun c_332 => ?_)
        rotate_left
        · exact absurd (by decide) (of_decide_eq_false c_332)
        refine ps_st (S' := (350, [(0, .ref m0), (1, .int 9), (3, .int (nI p0)), (5, .int (nI x))], [.int 9], M1)) rfl rfl rfl ?_
        refine ps_st (S' := (351, [(0, .ref m0), (1, .int 9), (3, .int (nI p0)), (5, .int (nI x))], [.int 2, .int 9], M1)) rfl rfl rfl ?_
        refine ps_if2 (S1 := (366, [(0, .ref m0), (1, .int 9), (3, .int (nI p0))], [], M1)) (S2 := (354, [(0, .ref m0), (1, .int 9), (3, .int (nI p0)), (5, .int (nI x))], [], M1)) rfl rfl rfl (fun c_351 => ?_) (fun c_351 => ?_)
        rotate_left
        · exact absurd (by decide) (of_decide_eq_false c_351)
        refine ps_st (S' := (367, [(0, .ref m0), (1, .int 9), (3, .int (nI p0))], [.int 9], M1)) rfl rfl rfl ?_
        refine ps_st (S' := (369, [(0, .ref m0), (1, .int 9), (3, .int (nI p0))], [.int 7, .int 9], M1)) rfl rfl rfl ?_
        refine ps_if2 (S1 := (381, [(0, .ref m0), (1, .int 9), (3, .int (nI p0))], [], M1)) (S2 := (372, [(0, .ref m0), (1, .int 9), (3, .int (nI p0))], [], M1)) rfl rfl rfl (fun c_369 => ?_) (fun c_369 => ?_)
        rotate_left
        · exact absurd (by decide) (of_decide_eq_false c_369)
        refine ps_st (S' := (382, [(0, .ref m0), (1, .int 9), (3, .int (nI p0))], [.int 9], M1)) rfl rfl rfl ?_
        refine ps_st (S' := (384, [(0, .ref m0), (1, .int 9), (3, .int (nI p0))], [.int 9, .int 9], M1)) rfl rfl rfl ?_
        refine ps_if2 (S1 := (396, [], [], M1)) (S2 := (387, [(0, .ref m0), (1, .int 9), (3, .int (nI p0))], [], M1)) rfl rfl rfl (fun c_384 => ?_) (fun c_384 => ?_)
        · exact absurd (of_decide_eq_true c_384) (by decide)
        refine ps_st (S' := (388, [(0, .ref m0), (1, .int 9), (3, .int (nI p0))], [.ref m0], M1)) rfl rfl rfl ?_
        refine ps_st (S' := (389, [(0, .ref m0), (1, .int 9), (3, .int (nI p0))], [.ref m0, .ref m0], M1)) rfl rfl rfl ?_
        refine ps_st (S' := (390, [(0, .ref m0), (1, .int 9), (3, .int (nI p0))], [.int (nI p0), .ref m0, .ref m0], M1)) rfl rfl rfl ?_
        refine pl_call (a := [.ref m0, .int (nI p0)]) (rest := [.ref m0]) rfl rfl rfl (rd_u2 (n := n) (f := f) (p := p0) hR1 hF1 (by omega)) (fun v4 M5 q6 => ?_)
        obtain ⟨rfl, rfl⟩ := q6
        show pl _ _ _ (393, [(0, .ref m0), (1, .int 9), (3, .int (nI p0))], [.int (nI (by2 f p0)), .ref m0], M1) _
        have hu_390 := by2_lt f p0
        refine pr_put (j := 69) rfl hR1 rfl (fun M7 I8 hR9 hi10 hI11 => ?_)
        have hi12 := (hI11 51 (by decide)).trans hl51
        have hi13 := (hI11 52 (by decide)).trans hl52
        have hi14 := (hI11 53 (by decide)).trans hl53
        have hi15 := (hI11 58 (by decide)).trans hl58
        have hF_16 := hF1.mono (pIx hI11 (by decide)) (fun _ _ => rfl)
        have hY_17 := hY1.mono (pIx hI11 (by decide)) (fun _ _ => rfl)
        have hP_18 := hP1.mono (pIx hI11 (by decide)) (fun _ _ => rfl)
        have hEI19 := hEI1.put hI11 (by decide)
        show pl _ _ _ (396, [], [], M7) _
        refine ps_st (S' := (397, [], [.int 0], M7)) rfl rfl rfl ?_
        exact ps_ret rfl rfl (Or.inr (Or.inr ⟨I8, R1, hfe, ⟨by rw [← hs, show by2 f p0 - i = 0 by omega]; exact Nat.one_ne_zero, h16⟩, rfl, hR9, hEI19, hER1, hi10⟩))
      · have c_275 : ¬ ((nI (by2 f p0)) ≤ (nI i)) := of_decide_eq_false c_275
        have n_275 : ¬ (by2 f p0 ≤ i) := fun h9 => c_275 ((le_nI (p := by2 f p0) (n := i) (Nat.lt_trans (by2_lt _ _) (by decide)) (by omega)).mpr h9)
        refine ps_st (S' := (279, [(0, .ref m0), (1, .int 9), (3, .int (nI p0)), (5, .int (nI x)), (6, .int (nI s3)), (9, .int (nI i))], [.ref m0], M1)) rfl rfl rfl ?_
        refine ps_st (S' := (280, [(0, .ref m0), (1, .int 9), (3, .int (nI p0)), (5, .int (nI x)), (6, .int (nI s3)), (9, .int (nI i))], [.ref m0, .ref m0], M1)) rfl rfl rfl ?_
        refine ps_st (S' := (281, [(0, .ref m0), (1, .int 9), (3, .int (nI p0)), (5, .int (nI x)), (6, .int (nI s3)), (9, .int (nI i))], [.int (nI p0), .ref m0, .ref m0], M1)) rfl rfl rfl ?_
        refine ps_st (S' := (282, [(0, .ref m0), (1, .int 9), (3, .int (nI p0)), (5, .int (nI x)), (6, .int (nI s3)), (9, .int (nI i))], [.int 2, .int (nI p0), .ref m0, .ref m0], M1)) rfl rfl rfl ?_
        refine ps_st (S' := (283, [(0, .ref m0), (1, .int 9), (3, .int (nI p0)), (5, .int (nI x)), (6, .int (nI s3)), (9, .int (nI i))], [.int ((nI p0) + 2), .ref m0, .ref m0], M1)) rfl rfl rfl ?_
        rw [nI_add1 (p := p0) (k := 2) (x := 2) rfl (by omega)]
        show pl _ _ _ (_, [(0, .ref m0), (1, .int 9), (3, .int (nI p0)), (5, .int (nI x)), (6, .int (nI s3)), (9, .int (nI i))], [.int (nI (p0 + 2)), .ref m0, .ref m0], M1) _
        refine ps_st (S' := (284, [(0, .ref m0), (1, .int 9), (3, .int (nI p0)), (5, .int (nI x)), (6, .int (nI s3)), (9, .int (nI i))], [.int 2, .int (nI (p0 + 2)), .ref m0, .ref m0], M1)) rfl rfl rfl ?_
        refine ps_st (S' := (286, [(0, .ref m0), (1, .int 9), (3, .int (nI p0)), (5, .int (nI x)), (6, .int (nI s3)), (9, .int (nI i))], [.int (nI i), .int 2, .int (nI (p0 + 2)), .ref m0, .ref m0], M1)) rfl rfl rfl ?_
        refine ps_st (S' := (287, [(0, .ref m0), (1, .int 9), (3, .int (nI p0)), (5, .int (nI x)), (6, .int (nI s3)), (9, .int (nI i))], [.int (2 * (nI i)), .int (nI (p0 + 2)), .ref m0, .ref m0], M1)) rfl rfl rfl ?_
        rw [nI_mul1 (p := 2) (k := i) (x := 2) (y := (nI i)) rfl rfl (by omega)]
        show pl _ _ _ (_, [(0, .ref m0), (1, .int 9), (3, .int (nI p0)), (5, .int (nI x)), (6, .int (nI s3)), (9, .int (nI i))], [.int (nI (2 * i)), .int (nI (p0 + 2)), .ref m0, .ref m0], M1) _
        refine ps_st (S' := (288, [(0, .ref m0), (1, .int 9), (3, .int (nI p0)), (5, .int (nI x)), (6, .int (nI s3)), (9, .int (nI i))], [.int ((nI (p0 + 2)) + (nI (2 * i))), .ref m0, .ref m0], M1)) rfl rfl rfl ?_
        rw [nI_add1 (p := p0 + 2) (k := 2 * i) (x := (nI (2 * i))) rfl (by omega)]
        show pl _ _ _ (_, [(0, .ref m0), (1, .int 9), (3, .int (nI p0)), (5, .int (nI x)), (6, .int (nI s3)), (9, .int (nI i))], [.int (nI (p0 + 2 + 2 * i)), .ref m0, .ref m0], M1) _
        refine pl_call (a := [.ref m0, .int (nI (p0 + 2 + 2 * i))]) (rest := [.ref m0]) rfl rfl rfl (rd_u2 (n := n) (f := f) (p := (p0 + 2 + 2 * i)) hR1 hF1 (by omega)) (fun v20 M21 q22 => ?_)
        obtain ⟨rfl, rfl⟩ := q22
        show pl _ _ _ (291, [(0, .ref m0), (1, .int 9), (3, .int (nI p0)), (5, .int (nI x)), (6, .int (nI s3)), (9, .int (nI i))], [.int (nI (by2 f (p0 + 2 + 2 * i))), .ref m0], M1) _
        have hu_288 := by2_lt f (p0 + 2 + 2 * i)
        refine pl_call (a := [.ref m0, .int (nI (by2 f (p0 + 2 + 2 * i)))]) (rest := []) rfl rfl rfl (rd_tag (n := n) (f := f) (tx := tx) (cN := cN) (A := A) (N := N) (mj := mj) (E := E) (k := (by2 f (p0 + 2 + 2 * i))) hR1 hl51 hl52 hl53 hF1 hY1 hP1 (hEP) (hN) (hmj) (by2_lt _ _)) (fun v23 M24 q25 => ?_)
        obtain ⟨rfl, rfl⟩ := q25
        show pl _ _ _ (294, [(0, .ref m0), (1, .int 9), (3, .int (nI p0)), (5, .int (nI x)), (6, .int (nI s3)), (9, .int (nI i))], [.int (nI (tg f E (by2 f (p0 + 2 + 2 * i))))], M1) _
        have htg_291 := tg_lt f E (by2 f (p0 + 2 + 2 * i))
        refine ps_st (S' := (296, [(0, .ref m0), (1, .int 9), (3, .int (nI p0)), (5, .int (nI x)), (6, .int (nI s3)), (9, .int (nI i))], [.int 7, .int (nI (tg f E (by2 f (p0 + 2 + 2 * i))))], M1)) rfl rfl rfl ?_
        refine ps_if2 (S1 := (323, [(0, .ref m0), (1, .int 9), (3, .int (nI p0)), (5, .int (nI x)), (6, .int (nI s3)), (9, .int (nI i))], [], M1)) (S2 := (299, [(0, .ref m0), (1, .int 9), (3, .int (nI p0)), (5, .int (nI x)), (6, .int (nI s3)), (9, .int (nI i))], [], M1)) rfl rfl rfl (fun c_296 => ?_) (fun c_296 => ?_)
        · have c_296 : (nI (tg f E (by2 f (p0 + 2 + 2 * i)))) = 7 := of_decide_eq_true c_296
          have n_296 : tg f E (by2 f (p0 + 2 + 2 * i)) = 7 := (eq_nI (p := tg f E (by2 f (p0 + 2 + 2 * i))) (n := 7) (Nat.lt_trans (tg_lt _ _ _) (by decide)) (by decide)).mp c_296
          refine ps_st (S' := (326, [(9, .int ((nI i) + 1)), (0, .ref m0), (1, .int 9), (3, .int (nI p0)), (5, .int (nI x)), (6, .int (nI s3))], [], M1)) rfl rfl rfl ?_
          rw [nI_add1 (p := i) (k := 1) (x := 1) rfl (by omega)]
          show pl _ _ _ (_, [(9, .int (nI (i + 1))), (0, .ref m0), (1, .int 9), (3, .int (nI p0)), (5, .int (nI x)), (6, .int (nI s3))], [], M1) _
          refine ps_st (S' := (268, [(0, .ref m0), (1, .int 9), (3, .int (nI p0)), (5, .int (nI x)), (6, .int (nI s3)), (9, .int (nI (i + 1)))], [], M1)) rfl rfl rfl ?_
          exact ih (i + 1) M1 I1 R1 hR1 hEI1 hER1 hl51 hl52 hl53 hl58 hF1 hY1 hP1 (hfe) (by omega) (hle) (by
              rw [← hs, clA_st (i := i) (by omega), if_pos (by omega)]) (h16)
        · have c_296 : ¬ ((nI (tg f E (by2 f (p0 + 2 + 2 * i)))) = 7) := of_decide_eq_false c_296
          have n_296 : ¬ (tg f E (by2 f (p0 + 2 + 2 * i)) = 7) := fun h9 => c_296 ((eq_nI (p := tg f E (by2 f (p0 + 2 + 2 * i))) (n := 7) (Nat.lt_trans (tg_lt _ _ _) (by decide)) (by decide)).mpr h9)
          refine ps_st (S' := (300, [(0, .ref m0), (1, .int 9), (3, .int (nI p0)), (5, .int (nI x)), (6, .int (nI s3)), (9, .int (nI i))], [.int 9], M1)) rfl rfl rfl ?_
          refine ps_st (S' := (301, [(0, .ref m0), (1, .int 9), (3, .int (nI p0)), (5, .int (nI x)), (6, .int (nI s3)), (9, .int (nI i))], [.int 2, .int 9], M1)) rfl rfl rfl ?_
          refine ps_if2 (S1 := (309, [(0, .ref m0), (1, .int 9), (3, .int (nI p0)), (5, .int (nI x)), (6, .int (nI s3)), (9, .int (nI i))], [], M1)) (S2 := (304, [(0, .ref m0), (1, .int 9), (3, .int (nI p0)), (5, .int (nI x)), (6, .int (nI s3)), (9, .int (nI i))], [], M1)) rfl rfl rfl (fun c_301 => ?_) (fun c_301 => ?_)
          rotate_left
          · exact absurd (by decide) (of_decide_eq_false c_301)
          refine ps_st (S' := (310, [(0, .ref m0), (1, .int 9), (3, .int (nI p0)), (5, .int (nI x)), (6, .int (nI s3)), (9, .int (nI i))], [.int 9], M1)) rfl rfl rfl ?_
          refine ps_st (S' := (312, [(0, .ref m0), (1, .int 9), (3, .int (nI p0)), (5, .int (nI x)), (6, .int (nI s3)), (9, .int (nI i))], [.int 7, .int 9], M1)) rfl rfl rfl ?_
          refine ps_if2 (S1 := (320, [(0, .ref m0), (1, .int 9), (3, .int (nI p0)), (5, .int (nI x)), (6, .int (nI s3)), (9, .int (nI i))], [], M1)) (S2 := (315, [(0, .ref m0), (1, .int 9), (3, .int (nI p0)), (5, .int (nI x)), (6, .int (nI s3)), (9, .int (nI i))], [], M1)) rfl rfl rfl (fun c_312 => ?_) (fun c_312 => ?_)
          rotate_left
          · exact absurd (by decide) (of_decide_eq_false c_312)
          refine ps_st (S' := (322, [], [.int 36], M1)) rfl rfl rfl ?_
          exact ps_ret rfl rfl (Or.inr (Or.inl ⟨I1, R1, hfe, Or.inl (by rw [← hs, clA_st (i := i) (by omega), if_neg (by omega)]), rfl, hR1, hEI1, hER1⟩))
  refine ps_st (S' := (1, [(0, .ref m0), (1, .int 9), (2, .int t), (3, .int (nI p0)), (4, .int (nI e)), (5, .int (nI x)), (6, .int (nI s3))], [.int 9], M)) rfl rfl rfl ?_
  refine ps_st (S' := (219, [(0, .ref m0), (1, .int 9), (2, .int t), (3, .int (nI p0)), (4, .int (nI e)), (5, .int (nI x)), (6, .int (nI s3))], [], M)) rfl rfl rfl ?_
  refine ps_st (S' := (221, [(0, .ref m0), (1, .int 9), (2, .int t), (3, .int (nI p0)), (4, .int (nI e)), (5, .int (nI x)), (6, .int (nI s3))], [.int (nI e)], M)) rfl rfl rfl ?_
  refine ps_st (S' := (222, [(0, .ref m0), (1, .int 9), (2, .int t), (3, .int (nI p0)), (4, .int (nI e)), (5, .int (nI x)), (6, .int (nI s3))], [.int (nI p0), .int (nI e)], M)) rfl rfl rfl ?_
  refine ps_st (S' := (223, [(0, .ref m0), (1, .int 9), (2, .int t), (3, .int (nI p0)), (4, .int (nI e)), (5, .int (nI x)), (6, .int (nI s3))], [.int ((nI e) - (nI p0))], M)) rfl rfl rfl ?_
  rw [nI_sub1 (p := e) (k := p0) (x := (nI p0)) rfl (by omega) (by omega)]
  show pl _ _ _ (_, [(0, .ref m0), (1, .int 9), (2, .int t), (3, .int (nI p0)), (4, .int (nI e)), (5, .int (nI x)), (6, .int (nI s3))], [.int (nI (e - p0))], M) _
  refine ps_st (S' := (224, [(0, .ref m0), (1, .int 9), (2, .int t), (3, .int (nI p0)), (4, .int (nI e)), (5, .int (nI x)), (6, .int (nI s3))], [.int 2, .int (nI (e - p0))], M)) rfl rfl rfl ?_
  refine ps_if2 (S1 := (243, [], [], M)) (S2 := (227, [(0, .ref m0), (1, .int 9), (2, .int t), (3, .int (nI p0)), (4, .int (nI e)), (5, .int (nI x)), (6, .int (nI s3))], [], M)) rfl rfl rfl (fun c_224 => ?_) (fun c_224 => ?_)
  · have c_224 : (nI (e - p0)) < 2 := of_decide_eq_true c_224
    have n_224 : e - p0 < 2 := (lt_nI (p := e - p0) (n := 2) (by omega) (by decide)).mp c_224
    refine ps_st (S' := (245, [], [.int 30], M)) rfl rfl rfl ?_
    exact ps_ret rfl rfl (Or.inl ⟨I, R, fe_2 (by omega), rfl, hR, hEI, hER⟩)
  · have c_224 : ¬ ((nI (e - p0)) < 2) := of_decide_eq_false c_224
    have n_224 : ¬ (e - p0 < 2) := fun h9 => c_224 ((lt_nI (p := e - p0) (n := 2) (by omega) (by decide)).mpr h9)
    refine ps_st (S' := (229, [(0, .ref m0), (1, .int 9), (2, .int t), (3, .int (nI p0)), (4, .int (nI e)), (5, .int (nI x)), (6, .int (nI s3))], [.int (nI e)], M)) rfl rfl rfl ?_
    refine ps_st (S' := (230, [(0, .ref m0), (1, .int 9), (2, .int t), (3, .int (nI p0)), (4, .int (nI e)), (5, .int (nI x)), (6, .int (nI s3))], [.int (nI p0), .int (nI e)], M)) rfl rfl rfl ?_
    refine ps_st (S' := (231, [(0, .ref m0), (1, .int 9), (2, .int t), (3, .int (nI p0)), (4, .int (nI e)), (5, .int (nI x)), (6, .int (nI s3))], [.int ((nI e) - (nI p0))], M)) rfl rfl rfl ?_
    rw [nI_sub1 (p := e) (k := p0) (x := (nI p0)) rfl (by omega) (by omega)]
    show pl _ _ _ (_, [(0, .ref m0), (1, .int 9), (2, .int t), (3, .int (nI p0)), (4, .int (nI e)), (5, .int (nI x)), (6, .int (nI s3))], [.int (nI (e - p0))], M) _
    refine ps_st (S' := (232, [(0, .ref m0), (1, .int 9), (2, .int t), (3, .int (nI p0)), (4, .int (nI e)), (5, .int (nI x)), (6, .int (nI s3))], [.int 2, .int (nI (e - p0))], M)) rfl rfl rfl ?_
    refine ps_st (S' := (233, [(0, .ref m0), (1, .int 9), (2, .int t), (3, .int (nI p0)), (4, .int (nI e)), (5, .int (nI x)), (6, .int (nI s3))], [.int 2, .int 2, .int (nI (e - p0))], M)) rfl rfl rfl ?_
    refine ps_st (S' := (234, [(0, .ref m0), (1, .int 9), (2, .int t), (3, .int (nI p0)), (4, .int (nI e)), (5, .int (nI x)), (6, .int (nI s3))], [.ref m0, .int 2, .int 2, .int (nI (e - p0))], M)) rfl rfl rfl ?_
    refine ps_st (S' := (235, [(0, .ref m0), (1, .int 9), (2, .int t), (3, .int (nI p0)), (4, .int (nI e)), (5, .int (nI x)), (6, .int (nI s3))], [.int (nI p0), .ref m0, .int 2, .int 2, .int (nI (e - p0))], M)) rfl rfl rfl ?_
    refine pl_call (a := [.ref m0, .int (nI p0)]) (rest := [.int 2, .int 2, .int (nI (e - p0))]) rfl rfl rfl (rd_u2 (n := n) (f := f) (p := p0) hR hF (by omega)) (fun v26 M27 q28 => ?_)
    obtain ⟨rfl, rfl⟩ := q28
    show pl _ _ _ (238, [(0, .ref m0), (1, .int 9), (2, .int t), (3, .int (nI p0)), (4, .int (nI e)), (5, .int (nI x)), (6, .int (nI s3))], [.int (nI (by2 f p0)), .int 2, .int 2, .int (nI (e - p0))], M) _
    have hu_235 := by2_lt f p0
    refine ps_st (S' := (239, [(0, .ref m0), (1, .int 9), (2, .int t), (3, .int (nI p0)), (4, .int (nI e)), (5, .int (nI x)), (6, .int (nI s3))], [.int (2 * (nI (by2 f p0))), .int 2, .int (nI (e - p0))], M)) rfl rfl rfl ?_
    rw [nI_mul1 (p := 2) (k := by2 f p0) (x := 2) (y := (nI (by2 f p0))) rfl rfl (by omega)]
    show pl _ _ _ (_, [(0, .ref m0), (1, .int 9), (2, .int t), (3, .int (nI p0)), (4, .int (nI e)), (5, .int (nI x)), (6, .int (nI s3))], [.int (nI (2 * (by2 f p0))), .int 2, .int (nI (e - p0))], M) _
    refine ps_st (S' := (240, [(0, .ref m0), (1, .int 9), (2, .int t), (3, .int (nI p0)), (4, .int (nI e)), (5, .int (nI x)), (6, .int (nI s3))], [.int (2 + (nI (2 * (by2 f p0)))), .int (nI (e - p0))], M)) rfl rfl rfl ?_
    rw [nI_add2 (p := 2) (k := 2 * (by2 f p0)) (x := 2) (y := (nI (2 * (by2 f p0)))) rfl rfl (by omega)]
    show pl _ _ _ (_, [(0, .ref m0), (1, .int 9), (2, .int t), (3, .int (nI p0)), (4, .int (nI e)), (5, .int (nI x)), (6, .int (nI s3))], [.int (nI (2 + 2 * (by2 f p0))), .int (nI (e - p0))], M) _
    refine ps_if2 (S1 := (246, [(0, .ref m0), (1, .int 9), (2, .int t), (3, .int (nI p0)), (4, .int (nI e)), (5, .int (nI x)), (6, .int (nI s3))], [], M)) (S2 := (243, [], [], M)) rfl rfl rfl (fun c_240 => ?_) (fun c_240 => ?_)
    · have c_240 : (nI (e - p0)) = (nI (2 + 2 * (by2 f p0))) := of_decide_eq_true c_240
      have n_240 : e - p0 = 2 + 2 * (by2 f p0) := (eq_nI (p := e - p0) (n := 2 + 2 * (by2 f p0)) (by omega) (by omega)).mp c_240
      refine ps_st (S' := (247, [(0, .ref m0), (1, .int 9), (2, .int t), (3, .int (nI p0)), (4, .int (nI e)), (5, .int (nI x)), (6, .int (nI s3))], [.int 9], M)) rfl rfl rfl ?_
      refine ps_st (S' := (249, [(0, .ref m0), (1, .int 9), (2, .int t), (3, .int (nI p0)), (4, .int (nI e)), (5, .int (nI x)), (6, .int (nI s3))], [.int 9, .int 9], M)) rfl rfl rfl ?_
      refine ps_if2 (S1 := (265, [(0, .ref m0), (1, .int 9), (3, .int (nI p0)), (5, .int (nI x)), (6, .int (nI s3))], [], M)) (S2 := (252, [(0, .ref m0), (1, .int 9), (2, .int t), (3, .int (nI p0)), (4, .int (nI e)), (5, .int (nI x)), (6, .int (nI s3))], [], M)) rfl rfl rfl (fun c_249 => ?_) (fun c_249 => ?_)
      · exact absurd (of_decide_eq_true c_249) (by decide)
      refine ps_st (S' := (253, [(0, .ref m0), (1, .int 9), (2, .int t), (3, .int (nI p0)), (4, .int (nI e)), (5, .int (nI x)), (6, .int (nI s3))], [.ref m0], M)) rfl rfl rfl ?_
      refine pr_int (j := 58) (S' := (256, [(0, .ref m0), (1, .int 9), (2, .int t), (3, .int (nI p0)), (4, .int (nI e)), (5, .int (nI x)), (6, .int (nI s3))], [.int (nI fl)], M)) rfl hR rfl hi58 rfl ?_
      refine ps_st (S' := (258, [(0, .ref m0), (1, .int 9), (2, .int t), (3, .int (nI p0)), (4, .int (nI e)), (5, .int (nI x)), (6, .int (nI s3))], [.int 16, .int (nI fl)], M)) rfl rfl rfl ?_
      refine ps_st (S' := (259, [(0, .ref m0), (1, .int 9), (2, .int t), (3, .int (nI p0)), (4, .int (nI e)), (5, .int (nI x)), (6, .int (nI s3))], [.int ((nI fl) &&& 16)], M)) rfl rfl rfl ?_
      rw [nI_an (p := fl) (k := 16) (x := 16) rfl]
      show pl _ _ _ (_, [(0, .ref m0), (1, .int 9), (2, .int t), (3, .int (nI p0)), (4, .int (nI e)), (5, .int (nI x)), (6, .int (nI s3))], [.int (nI (aN fl 16))], M) _
      refine ps_if (S1 := (265, [(0, .ref m0), (1, .int 9), (3, .int (nI p0)), (5, .int (nI x)), (6, .int (nI s3))], [], M)) (S2 := (262, [(0, .ref m0), (1, .int 9), (2, .int t), (3, .int (nI p0)), (4, .int (nI e)), (5, .int (nI x)), (6, .int (nI s3))], [], M)) rfl rfl rfl (fun c_259 => ?_) (fun c_259 => ?_)
      · have c_259 : (nI (aN fl 16)) = 0 := of_decide_eq_true c_259
        have n_259 : aN fl 16 = 0 := (eq_nI (p := aN fl 16) (n := 0) (Nat.lt_of_le_of_lt (an_le _ _) (by decide)) (by decide)).mp c_259
        refine ps_st (S' := (266, [(0, .ref m0), (1, .int 9), (3, .int (nI p0)), (5, .int (nI x)), (6, .int (nI s3))], [.int 0], M)) rfl rfl rfl ?_
        refine ps_st (S' := (268, [(0, .ref m0), (1, .int 9), (3, .int (nI p0)), (5, .int (nI x)), (6, .int (nI s3)), (9, .int 0)], [], M)) rfl rfl rfl ?_
        exact (LL kf) (0) M I R hR hEI hER hi51 hi52 hi53 hi58 hF hY hP ((fe_c (by decide) (by omega)).trans (congrArg some (by omega))) (by omega) (by omega) (rfl) (by omega)
      · have c_259 : ¬ ((nI (aN fl 16)) = 0) := of_decide_eq_false c_259
        have n_259 : ¬ (aN fl 16 = 0) := fun h9 => c_259 ((eq_nI (p := aN fl 16) (n := 0) (Nat.lt_of_le_of_lt (an_le _ _) (by decide)) (by decide)).mpr h9)
        refine ps_st (S' := (264, [(0, .ref m0), (1, .int 9), (2, .int t), (3, .int (nI p0)), (4, .int (nI e)), (5, .int (nI x)), (6, .int (nI s3))], [.int 36], M)) rfl rfl rfl ?_
        exact ps_ret rfl rfl (Or.inr (Or.inl ⟨I, R, (fe_c (by decide) (by omega)).trans (congrArg some (by omega)), Or.inr (by omega), rfl, hR, hEI, hER⟩))
    · have c_240 : ¬ ((nI (e - p0)) = (nI (2 + 2 * (by2 f p0)))) := of_decide_eq_false c_240
      have n_240 : ¬ (e - p0 = 2 + 2 * (by2 f p0)) := fun h9 => c_240 ((eq_nI (p := e - p0) (n := 2 + 2 * (by2 f p0)) (by omega) (by omega)).mpr h9)
      refine ps_st (S' := (245, [], [.int 30], M)) rfl rfl rfl ?_
      exact ps_ret rfl rfl (Or.inl ⟨I, R, (fun h9 => (by have h8 := Option.some.inj ((fe_c (by decide) (by omega)).symm.trans h9); omega)), rfl, hR, hEI, hER⟩)
set_option maxHeartbeats 4000000 in
theorem rd_attr4 {g : xe_G} {m0 : Nat} {q : Nat → Nat} {z : Nat × Nat} {I : rI} {R : rR} {M : mi_H} {n : Nat} {f : Nat → Int32} {tx : List (List Nat)} {cN : Nat} {A : Nat → Nat} {N mj : Nat} {E : List (Nat × Nat)} {p0 e x s3 : Nat} {t : Int32} (hR : RS g m0 q z I R M) (hi51 : I 51 = some 0) (hi52 : I 52 = some (nI N)) (hi53 : I 53 = some (nI mj)) (hF : FK n f I R) (hY : SYT tx cN A I R) (hP : RPV f n E tx N I R) (hEP : EP f n E) (hN : N < 65536) (hmj : mj < 65536) (he : p0 ≤ e ∧ e ≤ n) (hs3 : s3 < 2048) : pt (mT g) 177 [.ref m0, .int 4, .int t, .int (nI p0), .int (nI e), .int (nI x), .int (nI s3)] M (fun v M' => (∃  (I' : rI) (R' : rR), (¬ s_fe f 5 p0 e = some e) ∧ v = some (.int 30) ∧ RS g m0 q z I' R' M' ∧ eqI [65] I I' ∧ eqR [] R R') ∨ (∃  (I' : rI) (R' : rR), (s_fe f 5 p0 e = some e) ∧ (inA f E (p0 + 2) (by2 f p0) 0 = 0) ∧ v = some (.int 33) ∧ RS g m0 q z I' R' M' ∧ eqI [65] I I' ∧ eqR [] R R') ∨ (∃  (I' : rI) (R' : rR), (s_fe f 5 p0 e = some e) ∧ (¬ inA f E (p0 + 2) (by2 f p0) 0 = 0) ∧ v = some (.int 0) ∧ RS g m0 q z I' R' M' ∧ eqI [65] I I' ∧ eqR [] R R' ∧ I' 65 = some (nI (by2 f p0)))) := by
  refine pt_in (b := mb_177 g) rfl (fun kf => ?_)
  show pl (mT g) kf (mb_177 g).2 (0, [(0, .ref m0), (1, .int 4), (2, .int t), (3, .int (nI p0)), (4, .int (nI e)), (5, .int (nI x)), (6, .int (nI s3))], [], M) _
  have hEI : eqI [65] I I := eqI.rf
  have hER : eqR [] R R := eqR.rf
  have hn := hF.1
  have LL : ∀ (kf : Nat), (∀ (i : Nat) (M1 : mi_H) (I1 : rI) (R1 : rR), (RS g m0 q z I1 R1 M1) → (eqI [65] I I1) → (eqR [] R R1) → (I1 51 = some 0) → (I1 52 = some (nI N)) → (I1 53 = some (nI mj)) → (FK n f I1 R1) → (SYT tx cN A I1 R1) → (RPV f n E tx N I1 R1) → (s_fe f 5 p0 e = some e) → (i ≤ by2 f p0) → (p0 + 2 + 8 * by2 f p0 = e) → (inA f E (p0 + 2) (by2 f p0 - i) i = inA f E (p0 + 2) (by2 f p0) 0) →  pl (mT g) kf (mb_177 g).2 (431, [(0, .ref m0), (3, .int (nI p0)), (9, .int (nI i))], [], M1) (fun v M' => (∃  (I' : rI) (R' : rR), (¬ s_fe f 5 p0 e = some e) ∧ v = some (.int 30) ∧ RS g m0 q z I' R' M' ∧ eqI [65] I I' ∧ eqR [] R R') ∨ (∃  (I' : rI) (R' : rR), (s_fe f 5 p0 e = some e) ∧ (inA f E (p0 + 2) (by2 f p0) 0 = 0) ∧ v = some (.int 33) ∧ RS g m0 q z I' R' M' ∧ eqI [65] I I' ∧ eqR [] R R') ∨ (∃  (I' : rI) (R' : rR), (s_fe f 5 p0 e = some e) ∧ (¬ inA f E (p0 + 2) (by2 f p0) 0 = 0) ∧ v = some (.int 0) ∧ RS g m0 q z I' R' M' ∧ eqI [65] I I' ∧ eqR [] R R' ∧ I' 65 = some (nI (by2 f p0))))) := by
    intro kf
    induction kf with
    | zero => exact (by intros; exact pl_0)
    | succ kf ih =>
      intro i M1 I1 R1 hR1 hEI1 hER1 hl51 hl52 hl53 hF1 hY1 hP1 hfe hi hle hs
      have hn := hF1.1
      have hu9 := by2_lt f p0
      have hs6 := sb_lt s3 6
      have hs7 := sb_lt s3 7
      refine ps_st1 (S' := (433, [(0, .ref m0), (3, .int (nI p0)), (9, .int (nI i))], [.int (nI i)], M1)) rfl rfl rfl ?_
      refine ps_st (S' := (434, [(0, .ref m0), (3, .int (nI p0)), (9, .int (nI i))], [.ref m0, .int (nI i)], M1)) rfl rfl rfl ?_
      refine ps_st (S' := (435, [(0, .ref m0), (3, .int (nI p0)), (9, .int (nI i))], [.int (nI p0), .ref m0, .int (nI i)], M1)) rfl rfl rfl ?_
      refine pl_call (a := [.ref m0, .int (nI p0)]) (rest := [.int (nI i)]) rfl rfl rfl (rd_u2 (n := n) (f := f) (p := p0) hR1 hF1 (by omega)) (fun v1 M2 q3 => ?_)
      obtain ⟨rfl, rfl⟩ := q3
      show pl _ _ _ (438, [(0, .ref m0), (3, .int (nI p0)), (9, .int (nI i))], [.int (nI (by2 f p0)), .int (nI i)], M1) _
      have hu_435 := by2_lt f p0
      refine ps_if2 (S1 := (531, [(0, .ref m0), (3, .int (nI p0)), (9, .int (nI i))], [], M1)) (S2 := (441, [(0, .ref m0), (3, .int (nI p0)), (9, .int (nI i))], [], M1)) rfl rfl rfl (fun c_438 => ?_) (fun c_438 => ?_)
      · have c_438 : (nI (by2 f p0)) ≤ (nI i) := of_decide_eq_true c_438
        have n_438 : by2 f p0 ≤ i := (le_nI (p := by2 f p0) (n := i) (Nat.lt_trans (by2_lt _ _) (by decide)) (by omega)).mp c_438
        refine ps_st (S' := (532, [(0, .ref m0), (3, .int (nI p0)), (9, .int (nI i))], [.ref m0], M1)) rfl rfl rfl ?_
        refine ps_st (S' := (533, [(0, .ref m0), (3, .int (nI p0)), (9, .int (nI i))], [.ref m0, .ref m0], M1)) rfl rfl rfl ?_
        refine ps_st (S' := (534, [(0, .ref m0), (3, .int (nI p0)), (9, .int (nI i))], [.int (nI p0), .ref m0, .ref m0], M1)) rfl rfl rfl ?_
        refine pl_call (a := [.ref m0, .int (nI p0)]) (rest := [.ref m0]) rfl rfl rfl (rd_u2 (n := n) (f := f) (p := p0) hR1 hF1 (by omega)) (fun v4 M5 q6 => ?_)
        obtain ⟨rfl, rfl⟩ := q6
        show pl _ _ _ (537, [(0, .ref m0), (3, .int (nI p0)), (9, .int (nI i))], [.int (nI (by2 f p0)), .ref m0], M1) _
        have hu_534 := by2_lt f p0
        refine pr_put (j := 65) rfl hR1 rfl (fun M7 I8 hR9 hi10 hI11 => ?_)
        have hi12 := (hI11 51 (by decide)).trans hl51
        have hi13 := (hI11 52 (by decide)).trans hl52
        have hi14 := (hI11 53 (by decide)).trans hl53
        have hF_15 := hF1.mono (pIx hI11 (by decide)) (fun _ _ => rfl)
        have hY_16 := hY1.mono (pIx hI11 (by decide)) (fun _ _ => rfl)
        have hP_17 := hP1.mono (pIx hI11 (by decide)) (fun _ _ => rfl)
        have hEI18 := hEI1.put hI11 (by decide)
        show pl _ _ _ (540, [(0, .ref m0), (3, .int (nI p0)), (9, .int (nI i))], [], M7) _
        refine ps_st (S' := (541, [(0, .ref m0), (3, .int (nI p0)), (9, .int (nI i))], [.int 0], M7)) rfl rfl rfl ?_
        exact ps_ret rfl rfl (Or.inr (Or.inr ⟨I8, R1, hfe, by rw [← hs, show by2 f p0 - i = 0 by omega]; exact Nat.one_ne_zero, rfl, hR9, hEI18, hER1, hi10⟩))
      · have c_438 : ¬ ((nI (by2 f p0)) ≤ (nI i)) := of_decide_eq_false c_438
        have n_438 : ¬ (by2 f p0 ≤ i) := fun h9 => c_438 ((le_nI (p := by2 f p0) (n := i) (Nat.lt_trans (by2_lt _ _) (by decide)) (by omega)).mpr h9)
        refine ps_st (S' := (442, [(0, .ref m0), (3, .int (nI p0)), (9, .int (nI i))], [.int (nI p0)], M1)) rfl rfl rfl ?_
        refine ps_st (S' := (443, [(0, .ref m0), (3, .int (nI p0)), (9, .int (nI i))], [.int 2, .int (nI p0)], M1)) rfl rfl rfl ?_
        refine ps_st (S' := (444, [(0, .ref m0), (3, .int (nI p0)), (9, .int (nI i))], [.int ((nI p0) + 2)], M1)) rfl rfl rfl ?_
        rw [nI_add1 (p := p0) (k := 2) (x := 2) rfl (by omega)]
        show pl _ _ _ (_, [(0, .ref m0), (3, .int (nI p0)), (9, .int (nI i))], [.int (nI (p0 + 2))], M1) _
        refine ps_st (S' := (446, [(0, .ref m0), (3, .int (nI p0)), (9, .int (nI i))], [.int 8, .int (nI (p0 + 2))], M1)) rfl rfl rfl ?_
        refine ps_st (S' := (448, [(0, .ref m0), (3, .int (nI p0)), (9, .int (nI i))], [.int (nI i), .int 8, .int (nI (p0 + 2))], M1)) rfl rfl rfl ?_
        refine ps_st (S' := (449, [(0, .ref m0), (3, .int (nI p0)), (9, .int (nI i))], [.int (8 * (nI i)), .int (nI (p0 + 2))], M1)) rfl rfl rfl ?_
        rw [nI_mul1 (p := 8) (k := i) (x := 8) (y := (nI i)) rfl rfl (by omega)]
        show pl _ _ _ (_, [(0, .ref m0), (3, .int (nI p0)), (9, .int (nI i))], [.int (nI (8 * i)), .int (nI (p0 + 2))], M1) _
        refine ps_st (S' := (450, [(0, .ref m0), (3, .int (nI p0)), (9, .int (nI i))], [.int ((nI (p0 + 2)) + (nI (8 * i)))], M1)) rfl rfl rfl ?_
        rw [nI_add1 (p := p0 + 2) (k := 8 * i) (x := (nI (8 * i))) rfl (by omega)]
        show pl _ _ _ (_, [(0, .ref m0), (3, .int (nI p0)), (9, .int (nI i))], [.int (nI (p0 + 2 + 8 * i))], M1) _
        refine ps_st (S' := (452, [(10, .int (nI (p0 + 2 + 8 * i))), (0, .ref m0), (3, .int (nI p0)), (9, .int (nI i))], [], M1)) rfl rfl rfl ?_
        refine ps_st (S' := (453, [(10, .int (nI (p0 + 2 + 8 * i))), (0, .ref m0), (3, .int (nI p0)), (9, .int (nI i))], [.ref m0], M1)) rfl rfl rfl ?_
        refine ps_st (S' := (454, [(10, .int (nI (p0 + 2 + 8 * i))), (0, .ref m0), (3, .int (nI p0)), (9, .int (nI i))], [.ref m0, .ref m0], M1)) rfl rfl rfl ?_
        refine ps_st (S' := (456, [(10, .int (nI (p0 + 2 + 8 * i))), (0, .ref m0), (3, .int (nI p0)), (9, .int (nI i))], [.int (nI (p0 + 2 + 8 * i)), .ref m0, .ref m0], M1)) rfl rfl rfl ?_
        refine pl_call (a := [.ref m0, .int (nI (p0 + 2 + 8 * i))]) (rest := [.ref m0]) rfl rfl rfl (rd_u2 (n := n) (f := f) (p := (p0 + 2 + 8 * i)) hR1 hF1 (by omega)) (fun v19 M20 q21 => ?_)
        obtain ⟨rfl, rfl⟩ := q21
        show pl _ _ _ (459, [(10, .int (nI (p0 + 2 + 8 * i))), (0, .ref m0), (3, .int (nI p0)), (9, .int (nI i))], [.int (nI (by2 f (p0 + 2 + 8 * i))), .ref m0], M1) _
        have hu_456 := by2_lt f (p0 + 2 + 8 * i)
        refine pl_call (a := [.ref m0, .int (nI (by2 f (p0 + 2 + 8 * i)))]) (rest := []) rfl rfl rfl (rd_tag (n := n) (f := f) (tx := tx) (cN := cN) (A := A) (N := N) (mj := mj) (E := E) (k := (by2 f (p0 + 2 + 8 * i))) hR1 hl51 hl52 hl53 hF1 hY1 hP1 (hEP) (hN) (hmj) (by2_lt _ _)) (fun v22 M23 q24 => ?_)
        obtain ⟨rfl, rfl⟩ := q24
        show pl _ _ _ (462, [(10, .int (nI (p0 + 2 + 8 * i))), (0, .ref m0), (3, .int (nI p0)), (9, .int (nI i))], [.int (nI (tg f E (by2 f (p0 + 2 + 8 * i))))], M1) _
        have htg_459 := tg_lt f E (by2 f (p0 + 2 + 8 * i))
        refine ps_st (S' := (464, [(10, .int (nI (p0 + 2 + 8 * i))), (0, .ref m0), (3, .int (nI p0)), (9, .int (nI i))], [.int 7, .int (nI (tg f E (by2 f (p0 + 2 + 8 * i))))], M1)) rfl rfl rfl ?_
        refine ps_if2 (S1 := (522, [], [], M1)) (S2 := (467, [(10, .int (nI (p0 + 2 + 8 * i))), (0, .ref m0), (3, .int (nI p0)), (9, .int (nI i))], [], M1)) rfl rfl rfl (fun c_464 => ?_) (fun c_464 => ?_)
        · have c_464 : ¬ (nI (tg f E (by2 f (p0 + 2 + 8 * i)))) = 7 := of_decide_eq_true c_464
          have n_464 : ¬ (tg f E (by2 f (p0 + 2 + 8 * i)) = 7) := fun h9 => c_464 ((eq_nI (p := tg f E (by2 f (p0 + 2 + 8 * i))) (n := 7) (Nat.lt_trans (tg_lt _ _ _) (by decide)) (by decide)).mpr h9)
          refine ps_st (S' := (524, [], [.int 33], M1)) rfl rfl rfl ?_
          exact ps_ret rfl rfl (Or.inr (Or.inl ⟨I1, R1, hfe, by rw [← hs, inA_st (i := i) (by omega), if_pos (by unfold inR; rw [if_neg (by omega)])], rfl, hR1, hEI1, hER1⟩))
        · have c_464 : ¬ (¬ (nI (tg f E (by2 f (p0 + 2 + 8 * i)))) = 7) := of_decide_eq_false c_464
          have n_464 : tg f E (by2 f (p0 + 2 + 8 * i)) = 7 := (eq_nI (p := tg f E (by2 f (p0 + 2 + 8 * i))) (n := 7) (Nat.lt_trans (tg_lt _ _ _) (by decide)) (by decide)).mp (Decidable.not_not.mp c_464)
          refine ps_st (S' := (468, [(10, .int (nI (p0 + 2 + 8 * i))), (0, .ref m0), (3, .int (nI p0)), (9, .int (nI i))], [.ref m0], M1)) rfl rfl rfl ?_
          refine ps_st (S' := (470, [(10, .int (nI (p0 + 2 + 8 * i))), (0, .ref m0), (3, .int (nI p0)), (9, .int (nI i))], [.int (nI (p0 + 2 + 8 * i)), .ref m0], M1)) rfl rfl rfl ?_
          refine ps_st (S' := (471, [(10, .int (nI (p0 + 2 + 8 * i))), (0, .ref m0), (3, .int (nI p0)), (9, .int (nI i))], [.int 2, .int (nI (p0 + 2 + 8 * i)), .ref m0], M1)) rfl rfl rfl ?_
          refine ps_st (S' := (472, [(10, .int (nI (p0 + 2 + 8 * i))), (0, .ref m0), (3, .int (nI p0)), (9, .int (nI i))], [.int ((nI (p0 + 2 + 8 * i)) + 2), .ref m0], M1)) rfl rfl rfl ?_
          rw [nI_add1 (p := p0 + 2 + 8 * i) (k := 2) (x := 2) rfl (by omega)]
          show pl _ _ _ (_, [(10, .int (nI (p0 + 2 + 8 * i))), (0, .ref m0), (3, .int (nI p0)), (9, .int (nI i))], [.int (nI (p0 + 2 + 8 * i + 2)), .ref m0], M1) _
          refine pl_call (a := [.ref m0, .int (nI (p0 + 2 + 8 * i + 2))]) (rest := []) rfl rfl rfl (rd_u2 (n := n) (f := f) (p := (p0 + 2 + 8 * i + 2)) hR1 hF1 (by omega)) (fun v25 M26 q27 => ?_)
          obtain ⟨rfl, rfl⟩ := q27
          show pl _ _ _ (475, [(10, .int (nI (p0 + 2 + 8 * i))), (0, .ref m0), (3, .int (nI p0)), (9, .int (nI i))], [.int (nI (by2 f (p0 + 2 + 8 * i + 2)))], M1) _
          have hu_472 := by2_lt f (p0 + 2 + 8 * i + 2)
          refine ps_if (S1 := (495, [(0, .ref m0), (3, .int (nI p0)), (9, .int (nI i)), (10, .int (nI (p0 + 2 + 8 * i)))], [], M1)) (S2 := (478, [(10, .int (nI (p0 + 2 + 8 * i))), (0, .ref m0), (3, .int (nI p0)), (9, .int (nI i))], [], M1)) rfl rfl rfl (fun c_475 => ?_) (fun c_475 => ?_)
          · have c_475 : (nI (by2 f (p0 + 2 + 8 * i + 2))) = 0 := of_decide_eq_true c_475
            have n_475 : by2 f (p0 + 2 + 8 * i + 2) = 0 := (eq_nI (p := by2 f (p0 + 2 + 8 * i + 2)) (n := 0) (Nat.lt_trans (by2_lt _ _) (by decide)) (by decide)).mp c_475
            refine ps_st (S' := (496, [(0, .ref m0), (3, .int (nI p0)), (9, .int (nI i)), (10, .int (nI (p0 + 2 + 8 * i)))], [.ref m0], M1)) rfl rfl rfl ?_
            refine ps_st (S' := (498, [(0, .ref m0), (3, .int (nI p0)), (9, .int (nI i)), (10, .int (nI (p0 + 2 + 8 * i)))], [.int (nI (p0 + 2 + 8 * i)), .ref m0], M1)) rfl rfl rfl ?_
            refine ps_st (S' := (499, [(0, .ref m0), (3, .int (nI p0)), (9, .int (nI i)), (10, .int (nI (p0 + 2 + 8 * i)))], [.int 4, .int (nI (p0 + 2 + 8 * i)), .ref m0], M1)) rfl rfl rfl ?_
            refine ps_st (S' := (500, [(0, .ref m0), (3, .int (nI p0)), (9, .int (nI i)), (10, .int (nI (p0 + 2 + 8 * i)))], [.int ((nI (p0 + 2 + 8 * i)) + 4), .ref m0], M1)) rfl rfl rfl ?_
            rw [nI_add1 (p := p0 + 2 + 8 * i) (k := 4) (x := 4) rfl (by omega)]
            show pl _ _ _ (_, [(0, .ref m0), (3, .int (nI p0)), (9, .int (nI i)), (10, .int (nI (p0 + 2 + 8 * i)))], [.int (nI (p0 + 2 + 8 * i + 4)), .ref m0], M1) _
            refine pl_call (a := [.ref m0, .int (nI (p0 + 2 + 8 * i + 4))]) (rest := []) rfl rfl rfl (rd_u2 (n := n) (f := f) (p := (p0 + 2 + 8 * i + 4)) hR1 hF1 (by omega)) (fun v28 M29 q30 => ?_)
            obtain ⟨rfl, rfl⟩ := q30
            show pl _ _ _ (503, [(0, .ref m0), (3, .int (nI p0)), (9, .int (nI i)), (10, .int (nI (p0 + 2 + 8 * i)))], [.int (nI (by2 f (p0 + 2 + 8 * i + 4)))], M1) _
            have hu_500 := by2_lt f (p0 + 2 + 8 * i + 4)
            refine ps_if (S1 := (525, [(0, .ref m0), (3, .int (nI p0)), (9, .int (nI i))], [], M1)) (S2 := (506, [(0, .ref m0), (3, .int (nI p0)), (9, .int (nI i)), (10, .int (nI (p0 + 2 + 8 * i)))], [], M1)) rfl rfl rfl (fun c_503 => ?_) (fun c_503 => ?_)
            · have c_503 : (nI (by2 f (p0 + 2 + 8 * i + 4))) = 0 := of_decide_eq_true c_503
              have n_503 : by2 f (p0 + 2 + 8 * i + 4) = 0 := (eq_nI (p := by2 f (p0 + 2 + 8 * i + 4)) (n := 0) (Nat.lt_trans (by2_lt _ _) (by decide)) (by decide)).mp c_503
              refine ps_st (S' := (528, [(9, .int ((nI i) + 1)), (0, .ref m0), (3, .int (nI p0))], [], M1)) rfl rfl rfl ?_
              rw [nI_add1 (p := i) (k := 1) (x := 1) rfl (by omega)]
              show pl _ _ _ (_, [(9, .int (nI (i + 1))), (0, .ref m0), (3, .int (nI p0))], [], M1) _
              refine ps_st (S' := (431, [(0, .ref m0), (3, .int (nI p0)), (9, .int (nI (i + 1)))], [], M1)) rfl rfl rfl ?_
              exact ih (i + 1) M1 I1 R1 hR1 hEI1 hER1 hl51 hl52 hl53 hF1 hY1 hP1 (hfe) (by omega) (hle) (by
                  rw [← hs, inA_st (i := i) (by omega), if_neg (by unfold inR; rw [if_pos (by omega)]; decide)])
            · have c_503 : ¬ ((nI (by2 f (p0 + 2 + 8 * i + 4))) = 0) := of_decide_eq_false c_503
              have n_503 : ¬ (by2 f (p0 + 2 + 8 * i + 4) = 0) := fun h9 => c_503 ((eq_nI (p := by2 f (p0 + 2 + 8 * i + 4)) (n := 0) (Nat.lt_trans (by2_lt _ _) (by decide)) (by decide)).mpr h9)
              refine ps_st (S' := (507, [(0, .ref m0), (3, .int (nI p0)), (9, .int (nI i)), (10, .int (nI (p0 + 2 + 8 * i)))], [.ref m0], M1)) rfl rfl rfl ?_
              refine ps_st (S' := (508, [(0, .ref m0), (3, .int (nI p0)), (9, .int (nI i)), (10, .int (nI (p0 + 2 + 8 * i)))], [.ref m0, .ref m0], M1)) rfl rfl rfl ?_
              refine ps_st (S' := (510, [(0, .ref m0), (3, .int (nI p0)), (9, .int (nI i)), (10, .int (nI (p0 + 2 + 8 * i)))], [.int (nI (p0 + 2 + 8 * i)), .ref m0, .ref m0], M1)) rfl rfl rfl ?_
              refine ps_st (S' := (511, [(0, .ref m0), (3, .int (nI p0)), (9, .int (nI i)), (10, .int (nI (p0 + 2 + 8 * i)))], [.int 4, .int (nI (p0 + 2 + 8 * i)), .ref m0, .ref m0], M1)) rfl rfl rfl ?_
              refine ps_st (S' := (512, [(0, .ref m0), (3, .int (nI p0)), (9, .int (nI i)), (10, .int (nI (p0 + 2 + 8 * i)))], [.int ((nI (p0 + 2 + 8 * i)) + 4), .ref m0, .ref m0], M1)) rfl rfl rfl ?_
              rw [nI_add1 (p := p0 + 2 + 8 * i) (k := 4) (x := 4) rfl (by omega)]
              show pl _ _ _ (_, [(0, .ref m0), (3, .int (nI p0)), (9, .int (nI i)), (10, .int (nI (p0 + 2 + 8 * i)))], [.int (nI (p0 + 2 + 8 * i + 4)), .ref m0, .ref m0], M1) _
              refine pl_call (a := [.ref m0, .int (nI (p0 + 2 + 8 * i + 4))]) (rest := [.ref m0]) rfl rfl rfl (rd_u2 (n := n) (f := f) (p := (p0 + 2 + 8 * i + 4)) hR1 hF1 (by omega)) (fun v31 M32 q33 => ?_)
              obtain ⟨rfl, rfl⟩ := q33
              show pl _ _ _ (515, [(0, .ref m0), (3, .int (nI p0)), (9, .int (nI i)), (10, .int (nI (p0 + 2 + 8 * i)))], [.int (nI (by2 f (p0 + 2 + 8 * i + 4))), .ref m0], M1) _
              have hu_512 := by2_lt f (p0 + 2 + 8 * i + 4)
              refine pl_call (a := [.ref m0, .int (nI (by2 f (p0 + 2 + 8 * i + 4)))]) (rest := []) rfl rfl rfl (rd_tag (n := n) (f := f) (tx := tx) (cN := cN) (A := A) (N := N) (mj := mj) (E := E) (k := (by2 f (p0 + 2 + 8 * i + 4))) hR1 hl51 hl52 hl53 hF1 hY1 hP1 (hEP) (hN) (hmj) (by2_lt _ _)) (fun v34 M35 q36 => ?_)
              obtain ⟨rfl, rfl⟩ := q36
              show pl _ _ _ (518, [(0, .ref m0), (3, .int (nI p0)), (9, .int (nI i)), (10, .int (nI (p0 + 2 + 8 * i)))], [.int (nI (tg f E (by2 f (p0 + 2 + 8 * i + 4))))], M1) _
              have htg_515 := tg_lt f E (by2 f (p0 + 2 + 8 * i + 4))
              refine ps_st (S' := (519, [(0, .ref m0), (3, .int (nI p0)), (9, .int (nI i)), (10, .int (nI (p0 + 2 + 8 * i)))], [.int 1, .int (nI (tg f E (by2 f (p0 + 2 + 8 * i + 4))))], M1)) rfl rfl rfl ?_
              refine ps_if2 (S1 := (525, [(0, .ref m0), (3, .int (nI p0)), (9, .int (nI i))], [], M1)) (S2 := (522, [], [], M1)) rfl rfl rfl (fun c_519 => ?_) (fun c_519 => ?_)
              · have c_519 : (nI (tg f E (by2 f (p0 + 2 + 8 * i + 4)))) = 1 := of_decide_eq_true c_519
                have n_519 : tg f E (by2 f (p0 + 2 + 8 * i + 4)) = 1 := (eq_nI (p := tg f E (by2 f (p0 + 2 + 8 * i + 4))) (n := 1) (Nat.lt_trans (tg_lt _ _ _) (by decide)) (by decide)).mp c_519
                refine ps_st (S' := (528, [(9, .int ((nI i) + 1)), (0, .ref m0), (3, .int (nI p0))], [], M1)) rfl rfl rfl ?_
                rw [nI_add1 (p := i) (k := 1) (x := 1) rfl (by omega)]
                show pl _ _ _ (_, [(9, .int (nI (i + 1))), (0, .ref m0), (3, .int (nI p0))], [], M1) _
                refine ps_st (S' := (431, [(0, .ref m0), (3, .int (nI p0)), (9, .int (nI (i + 1)))], [], M1)) rfl rfl rfl ?_
                exact ih (i + 1) M1 I1 R1 hR1 hEI1 hER1 hl51 hl52 hl53 hF1 hY1 hP1 (hfe) (by omega) (hle) (by
                    rw [← hs, inA_st (i := i) (by omega), if_neg (by unfold inR; rw [if_pos (by omega)]; decide)])
              · have c_519 : ¬ ((nI (tg f E (by2 f (p0 + 2 + 8 * i + 4)))) = 1) := of_decide_eq_false c_519
                have n_519 : ¬ (tg f E (by2 f (p0 + 2 + 8 * i + 4)) = 1) := fun h9 => c_519 ((eq_nI (p := tg f E (by2 f (p0 + 2 + 8 * i + 4))) (n := 1) (Nat.lt_trans (tg_lt _ _ _) (by decide)) (by decide)).mpr h9)
                refine ps_st (S' := (524, [], [.int 33], M1)) rfl rfl rfl ?_
                exact ps_ret rfl rfl (Or.inr (Or.inl ⟨I1, R1, hfe, by rw [← hs, inA_st (i := i) (by omega), if_pos (by unfold inR; rw [if_neg (by omega)])], rfl, hR1, hEI1, hER1⟩))
          · have c_475 : ¬ ((nI (by2 f (p0 + 2 + 8 * i + 2))) = 0) := of_decide_eq_false c_475
            have n_475 : ¬ (by2 f (p0 + 2 + 8 * i + 2) = 0) := fun h9 => c_475 ((eq_nI (p := by2 f (p0 + 2 + 8 * i + 2)) (n := 0) (Nat.lt_trans (by2_lt _ _) (by decide)) (by decide)).mpr h9)
            refine ps_st (S' := (479, [(10, .int (nI (p0 + 2 + 8 * i))), (0, .ref m0), (3, .int (nI p0)), (9, .int (nI i))], [.ref m0], M1)) rfl rfl rfl ?_
            refine ps_st (S' := (480, [(10, .int (nI (p0 + 2 + 8 * i))), (0, .ref m0), (3, .int (nI p0)), (9, .int (nI i))], [.ref m0, .ref m0], M1)) rfl rfl rfl ?_
            refine ps_st (S' := (482, [(10, .int (nI (p0 + 2 + 8 * i))), (0, .ref m0), (3, .int (nI p0)), (9, .int (nI i))], [.int (nI (p0 + 2 + 8 * i)), .ref m0, .ref m0], M1)) rfl rfl rfl ?_
            refine ps_st (S' := (483, [(10, .int (nI (p0 + 2 + 8 * i))), (0, .ref m0), (3, .int (nI p0)), (9, .int (nI i))], [.int 2, .int (nI (p0 + 2 + 8 * i)), .ref m0, .ref m0], M1)) rfl rfl rfl ?_
            refine ps_st (S' := (484, [(10, .int (nI (p0 + 2 + 8 * i))), (0, .ref m0), (3, .int (nI p0)), (9, .int (nI i))], [.int ((nI (p0 + 2 + 8 * i)) + 2), .ref m0, .ref m0], M1)) rfl rfl rfl ?_
            rw [nI_add1 (p := p0 + 2 + 8 * i) (k := 2) (x := 2) rfl (by omega)]
            show pl _ _ _ (_, [(10, .int (nI (p0 + 2 + 8 * i))), (0, .ref m0), (3, .int (nI p0)), (9, .int (nI i))], [.int (nI (p0 + 2 + 8 * i + 2)), .ref m0, .ref m0], M1) _
            refine pl_call (a := [.ref m0, .int (nI (p0 + 2 + 8 * i + 2))]) (rest := [.ref m0]) rfl rfl rfl (rd_u2 (n := n) (f := f) (p := (p0 + 2 + 8 * i + 2)) hR1 hF1 (by omega)) (fun v37 M38 q39 => ?_)
            obtain ⟨rfl, rfl⟩ := q39
            show pl _ _ _ (487, [(10, .int (nI (p0 + 2 + 8 * i))), (0, .ref m0), (3, .int (nI p0)), (9, .int (nI i))], [.int (nI (by2 f (p0 + 2 + 8 * i + 2))), .ref m0], M1) _
            have hu_484 := by2_lt f (p0 + 2 + 8 * i + 2)
            refine pl_call (a := [.ref m0, .int (nI (by2 f (p0 + 2 + 8 * i + 2)))]) (rest := []) rfl rfl rfl (rd_tag (n := n) (f := f) (tx := tx) (cN := cN) (A := A) (N := N) (mj := mj) (E := E) (k := (by2 f (p0 + 2 + 8 * i + 2))) hR1 hl51 hl52 hl53 hF1 hY1 hP1 (hEP) (hN) (hmj) (by2_lt _ _)) (fun v40 M41 q42 => ?_)
            obtain ⟨rfl, rfl⟩ := q42
            show pl _ _ _ (490, [(10, .int (nI (p0 + 2 + 8 * i))), (0, .ref m0), (3, .int (nI p0)), (9, .int (nI i))], [.int (nI (tg f E (by2 f (p0 + 2 + 8 * i + 2))))], M1) _
            have htg_487 := tg_lt f E (by2 f (p0 + 2 + 8 * i + 2))
            refine ps_st (S' := (492, [(10, .int (nI (p0 + 2 + 8 * i))), (0, .ref m0), (3, .int (nI p0)), (9, .int (nI i))], [.int 7, .int (nI (tg f E (by2 f (p0 + 2 + 8 * i + 2))))], M1)) rfl rfl rfl ?_
            refine ps_if2 (S1 := (522, [], [], M1)) (S2 := (495, [(0, .ref m0), (3, .int (nI p0)), (9, .int (nI i)), (10, .int (nI (p0 + 2 + 8 * i)))], [], M1)) rfl rfl rfl (fun c_492 => ?_) (fun c_492 => ?_)
            · have c_492 : ¬ (nI (tg f E (by2 f (p0 + 2 + 8 * i + 2)))) = 7 := of_decide_eq_true c_492
              have n_492 : ¬ (tg f E (by2 f (p0 + 2 + 8 * i + 2)) = 7) := fun h9 => c_492 ((eq_nI (p := tg f E (by2 f (p0 + 2 + 8 * i + 2))) (n := 7) (Nat.lt_trans (tg_lt _ _ _) (by decide)) (by decide)).mpr h9)
              refine ps_st (S' := (524, [], [.int 33], M1)) rfl rfl rfl ?_
              exact ps_ret rfl rfl (Or.inr (Or.inl ⟨I1, R1, hfe, by rw [← hs, inA_st (i := i) (by omega), if_pos (by unfold inR; rw [if_neg (by omega)])], rfl, hR1, hEI1, hER1⟩))
            · have c_492 : ¬ (¬ (nI (tg f E (by2 f (p0 + 2 + 8 * i + 2)))) = 7) := of_decide_eq_false c_492
              have n_492 : tg f E (by2 f (p0 + 2 + 8 * i + 2)) = 7 := (eq_nI (p := tg f E (by2 f (p0 + 2 + 8 * i + 2))) (n := 7) (Nat.lt_trans (tg_lt _ _ _) (by decide)) (by decide)).mp (Decidable.not_not.mp c_492)
              refine ps_st (S' := (496, [(0, .ref m0), (3, .int (nI p0)), (9, .int (nI i)), (10, .int (nI (p0 + 2 + 8 * i)))], [.ref m0], M1)) rfl rfl rfl ?_
              refine ps_st (S' := (498, [(0, .ref m0), (3, .int (nI p0)), (9, .int (nI i)), (10, .int (nI (p0 + 2 + 8 * i)))], [.int (nI (p0 + 2 + 8 * i)), .ref m0], M1)) rfl rfl rfl ?_
              refine ps_st (S' := (499, [(0, .ref m0), (3, .int (nI p0)), (9, .int (nI i)), (10, .int (nI (p0 + 2 + 8 * i)))], [.int 4, .int (nI (p0 + 2 + 8 * i)), .ref m0], M1)) rfl rfl rfl ?_
              refine ps_st (S' := (500, [(0, .ref m0), (3, .int (nI p0)), (9, .int (nI i)), (10, .int (nI (p0 + 2 + 8 * i)))], [.int ((nI (p0 + 2 + 8 * i)) + 4), .ref m0], M1)) rfl rfl rfl ?_
              rw [nI_add1 (p := p0 + 2 + 8 * i) (k := 4) (x := 4) rfl (by omega)]
              show pl _ _ _ (_, [(0, .ref m0), (3, .int (nI p0)), (9, .int (nI i)), (10, .int (nI (p0 + 2 + 8 * i)))], [.int (nI (p0 + 2 + 8 * i + 4)), .ref m0], M1) _
              refine pl_call (a := [.ref m0, .int (nI (p0 + 2 + 8 * i + 4))]) (rest := []) rfl rfl rfl (rd_u2 (n := n) (f := f) (p := (p0 + 2 + 8 * i + 4)) hR1 hF1 (by omega)) (fun v43 M44 q45 => ?_)
              obtain ⟨rfl, rfl⟩ := q45
              show pl _ _ _ (503, [(0, .ref m0), (3, .int (nI p0)), (9, .int (nI i)), (10, .int (nI (p0 + 2 + 8 * i)))], [.int (nI (by2 f (p0 + 2 + 8 * i + 4)))], M1) _
              have hu_500 := by2_lt f (p0 + 2 + 8 * i + 4)
              refine ps_if (S1 := (525, [(0, .ref m0), (3, .int (nI p0)), (9, .int (nI i))], [], M1)) (S2 := (506, [(0, .ref m0), (3, .int (nI p0)), (9, .int (nI i)), (10, .int (nI (p0 + 2 + 8 * i)))], [], M1)) rfl rfl rfl (fun c_503 => ?_) (fun c_503 => ?_)
              · have c_503 : (nI (by2 f (p0 + 2 + 8 * i + 4))) = 0 := of_decide_eq_true c_503
                have n_503 : by2 f (p0 + 2 + 8 * i + 4) = 0 := (eq_nI (p := by2 f (p0 + 2 + 8 * i + 4)) (n := 0) (Nat.lt_trans (by2_lt _ _) (by decide)) (by decide)).mp c_503
                refine ps_st (S' := (528, [(9, .int ((nI i) + 1)), (0, .ref m0), (3, .int (nI p0))], [], M1)) rfl rfl rfl ?_
                rw [nI_add1 (p := i) (k := 1) (x := 1) rfl (by omega)]
                show pl _ _ _ (_, [(9, .int (nI (i + 1))), (0, .ref m0), (3, .int (nI p0))], [], M1) _
                refine ps_st (S' := (431, [(0, .ref m0), (3, .int (nI p0)), (9, .int (nI (i + 1)))], [], M1)) rfl rfl rfl ?_
                exact ih (i + 1) M1 I1 R1 hR1 hEI1 hER1 hl51 hl52 hl53 hF1 hY1 hP1 (hfe) (by omega) (hle) (by
                    rw [← hs, inA_st (i := i) (by omega), if_neg (by unfold inR; rw [if_pos (by omega)]; decide)])
              · have c_503 : ¬ ((nI (by2 f (p0 + 2 + 8 * i + 4))) = 0) := of_decide_eq_false c_503
                have n_503 : ¬ (by2 f (p0 + 2 + 8 * i + 4) = 0) := fun h9 => c_503 ((eq_nI (p := by2 f (p0 + 2 + 8 * i + 4)) (n := 0) (Nat.lt_trans (by2_lt _ _) (by decide)) (by decide)).mpr h9)
                refine ps_st (S' := (507, [(0, .ref m0), (3, .int (nI p0)), (9, .int (nI i)), (10, .int (nI (p0 + 2 + 8 * i)))], [.ref m0], M1)) rfl rfl rfl ?_
                refine ps_st (S' := (508, [(0, .ref m0), (3, .int (nI p0)), (9, .int (nI i)), (10, .int (nI (p0 + 2 + 8 * i)))], [.ref m0, .ref m0], M1)) rfl rfl rfl ?_
                refine ps_st (S' := (510, [(0, .ref m0), (3, .int (nI p0)), (9, .int (nI i)), (10, .int (nI (p0 + 2 + 8 * i)))], [.int (nI (p0 + 2 + 8 * i)), .ref m0, .ref m0], M1)) rfl rfl rfl ?_
                refine ps_st (S' := (511, [(0, .ref m0), (3, .int (nI p0)), (9, .int (nI i)), (10, .int (nI (p0 + 2 + 8 * i)))], [.int 4, .int (nI (p0 + 2 + 8 * i)), .ref m0, .ref m0], M1)) rfl rfl rfl ?_
                refine ps_st (S' := (512, [(0, .ref m0), (3, .int (nI p0)), (9, .int (nI i)), (10, .int (nI (p0 + 2 + 8 * i)))], [.int ((nI (p0 + 2 + 8 * i)) + 4), .ref m0, .ref m0], M1)) rfl rfl rfl ?_
                rw [nI_add1 (p := p0 + 2 + 8 * i) (k := 4) (x := 4) rfl (by omega)]
                show pl _ _ _ (_, [(0, .ref m0), (3, .int (nI p0)), (9, .int (nI i)), (10, .int (nI (p0 + 2 + 8 * i)))], [.int (nI (p0 + 2 + 8 * i + 4)), .ref m0, .ref m0], M1) _
                refine pl_call (a := [.ref m0, .int (nI (p0 + 2 + 8 * i + 4))]) (rest := [.ref m0]) rfl rfl rfl (rd_u2 (n := n) (f := f) (p := (p0 + 2 + 8 * i + 4)) hR1 hF1 (by omega)) (fun v46 M47 q48 => ?_)
                obtain ⟨rfl, rfl⟩ := q48
                show pl _ _ _ (515, [(0, .ref m0), (3, .int (nI p0)), (9, .int (nI i)), (10, .int (nI (p0 + 2 + 8 * i)))], [.int (nI (by2 f (p0 + 2 + 8 * i + 4))), .ref m0], M1) _
                have hu_512 := by2_lt f (p0 + 2 + 8 * i + 4)
                refine pl_call (a := [.ref m0, .int (nI (by2 f (p0 + 2 + 8 * i + 4)))]) (rest := []) rfl rfl rfl (rd_tag (n := n) (f := f) (tx := tx) (cN := cN) (A := A) (N := N) (mj := mj) (E := E) (k := (by2 f (p0 + 2 + 8 * i + 4))) hR1 hl51 hl52 hl53 hF1 hY1 hP1 (hEP) (hN) (hmj) (by2_lt _ _)) (fun v49 M50 q51 => ?_)
                obtain ⟨rfl, rfl⟩ := q51
                show pl _ _ _ (518, [(0, .ref m0), (3, .int (nI p0)), (9, .int (nI i)), (10, .int (nI (p0 + 2 + 8 * i)))], [.int (nI (tg f E (by2 f (p0 + 2 + 8 * i + 4))))], M1) _
                have htg_515 := tg_lt f E (by2 f (p0 + 2 + 8 * i + 4))
                refine ps_st (S' := (519, [(0, .ref m0), (3, .int (nI p0)), (9, .int (nI i)), (10, .int (nI (p0 + 2 + 8 * i)))], [.int 1, .int (nI (tg f E (by2 f (p0 + 2 + 8 * i + 4))))], M1)) rfl rfl rfl ?_
                refine ps_if2 (S1 := (525, [(0, .ref m0), (3, .int (nI p0)), (9, .int (nI i))], [], M1)) (S2 := (522, [], [], M1)) rfl rfl rfl (fun c_519 => ?_) (fun c_519 => ?_)
                · have c_519 : (nI (tg f E (by2 f (p0 + 2 + 8 * i + 4)))) = 1 := of_decide_eq_true c_519
                  have n_519 : tg f E (by2 f (p0 + 2 + 8 * i + 4)) = 1 := (eq_nI (p := tg f E (by2 f (p0 + 2 + 8 * i + 4))) (n := 1) (Nat.lt_trans (tg_lt _ _ _) (by decide)) (by decide)).mp c_519
                  refine ps_st (S' := (528, [(9, .int ((nI i) + 1)), (0, .ref m0), (3, .int (nI p0))], [], M1)) rfl rfl rfl ?_
                  rw [nI_add1 (p := i) (k := 1) (x := 1) rfl (by omega)]
                  show pl _ _ _ (_, [(9, .int (nI (i + 1))), (0, .ref m0), (3, .int (nI p0))], [], M1) _
                  refine ps_st (S' := (431, [(0, .ref m0), (3, .int (nI p0)), (9, .int (nI (i + 1)))], [], M1)) rfl rfl rfl ?_
                  exact ih (i + 1) M1 I1 R1 hR1 hEI1 hER1 hl51 hl52 hl53 hF1 hY1 hP1 (hfe) (by omega) (hle) (by
                      rw [← hs, inA_st (i := i) (by omega), if_neg (by unfold inR; rw [if_pos (by omega)]; decide)])
                · have c_519 : ¬ ((nI (tg f E (by2 f (p0 + 2 + 8 * i + 4)))) = 1) := of_decide_eq_false c_519
                  have n_519 : ¬ (tg f E (by2 f (p0 + 2 + 8 * i + 4)) = 1) := fun h9 => c_519 ((eq_nI (p := tg f E (by2 f (p0 + 2 + 8 * i + 4))) (n := 1) (Nat.lt_trans (tg_lt _ _ _) (by decide)) (by decide)).mpr h9)
                  refine ps_st (S' := (524, [], [.int 33], M1)) rfl rfl rfl ?_
                  exact ps_ret rfl rfl (Or.inr (Or.inl ⟨I1, R1, hfe, by rw [← hs, inA_st (i := i) (by omega), if_pos (by unfold inR; rw [if_neg (by omega)])], rfl, hR1, hEI1, hER1⟩))
  refine ps_st (S' := (1, [(0, .ref m0), (1, .int 4), (2, .int t), (3, .int (nI p0)), (4, .int (nI e)), (5, .int (nI x)), (6, .int (nI s3))], [.int 4], M)) rfl rfl rfl ?_
  refine ps_st (S' := (400, [(0, .ref m0), (1, .int 4), (2, .int t), (3, .int (nI p0)), (4, .int (nI e)), (5, .int (nI x)), (6, .int (nI s3))], [], M)) rfl rfl rfl ?_
  refine ps_st (S' := (402, [(0, .ref m0), (1, .int 4), (2, .int t), (3, .int (nI p0)), (4, .int (nI e)), (5, .int (nI x)), (6, .int (nI s3))], [.int (nI e)], M)) rfl rfl rfl ?_
  refine ps_st (S' := (403, [(0, .ref m0), (1, .int 4), (2, .int t), (3, .int (nI p0)), (4, .int (nI e)), (5, .int (nI x)), (6, .int (nI s3))], [.int (nI p0), .int (nI e)], M)) rfl rfl rfl ?_
  refine ps_st (S' := (404, [(0, .ref m0), (1, .int 4), (2, .int t), (3, .int (nI p0)), (4, .int (nI e)), (5, .int (nI x)), (6, .int (nI s3))], [.int ((nI e) - (nI p0))], M)) rfl rfl rfl ?_
  rw [nI_sub1 (p := e) (k := p0) (x := (nI p0)) rfl (by omega) (by omega)]
  show pl _ _ _ (_, [(0, .ref m0), (1, .int 4), (2, .int t), (3, .int (nI p0)), (4, .int (nI e)), (5, .int (nI x)), (6, .int (nI s3))], [.int (nI (e - p0))], M) _
  refine ps_st (S' := (405, [(0, .ref m0), (1, .int 4), (2, .int t), (3, .int (nI p0)), (4, .int (nI e)), (5, .int (nI x)), (6, .int (nI s3))], [.int 2, .int (nI (e - p0))], M)) rfl rfl rfl ?_
  refine ps_if2 (S1 := (425, [], [], M)) (S2 := (408, [(0, .ref m0), (1, .int 4), (2, .int t), (3, .int (nI p0)), (4, .int (nI e)), (5, .int (nI x)), (6, .int (nI s3))], [], M)) rfl rfl rfl (fun c_405 => ?_) (fun c_405 => ?_)
  · have c_405 : (nI (e - p0)) < 2 := of_decide_eq_true c_405
    have n_405 : e - p0 < 2 := (lt_nI (p := e - p0) (n := 2) (by omega) (by decide)).mp c_405
    refine ps_st (S' := (427, [], [.int 30], M)) rfl rfl rfl ?_
    exact ps_ret rfl rfl (Or.inl ⟨I, R, fe_2 (by omega), rfl, hR, hEI, hER⟩)
  · have c_405 : ¬ ((nI (e - p0)) < 2) := of_decide_eq_false c_405
    have n_405 : ¬ (e - p0 < 2) := fun h9 => c_405 ((lt_nI (p := e - p0) (n := 2) (by omega) (by decide)).mpr h9)
    refine ps_st (S' := (410, [(0, .ref m0), (1, .int 4), (2, .int t), (3, .int (nI p0)), (4, .int (nI e)), (5, .int (nI x)), (6, .int (nI s3))], [.int (nI e)], M)) rfl rfl rfl ?_
    refine ps_st (S' := (411, [(0, .ref m0), (1, .int 4), (2, .int t), (3, .int (nI p0)), (4, .int (nI e)), (5, .int (nI x)), (6, .int (nI s3))], [.int (nI p0), .int (nI e)], M)) rfl rfl rfl ?_
    refine ps_st (S' := (412, [(0, .ref m0), (1, .int 4), (2, .int t), (3, .int (nI p0)), (4, .int (nI e)), (5, .int (nI x)), (6, .int (nI s3))], [.int ((nI e) - (nI p0))], M)) rfl rfl rfl ?_
    rw [nI_sub1 (p := e) (k := p0) (x := (nI p0)) rfl (by omega) (by omega)]
    show pl _ _ _ (_, [(0, .ref m0), (1, .int 4), (2, .int t), (3, .int (nI p0)), (4, .int (nI e)), (5, .int (nI x)), (6, .int (nI s3))], [.int (nI (e - p0))], M) _
    refine ps_st (S' := (413, [(0, .ref m0), (1, .int 4), (2, .int t), (3, .int (nI p0)), (4, .int (nI e)), (5, .int (nI x)), (6, .int (nI s3))], [.int 2, .int (nI (e - p0))], M)) rfl rfl rfl ?_
    refine ps_st (S' := (415, [(0, .ref m0), (1, .int 4), (2, .int t), (3, .int (nI p0)), (4, .int (nI e)), (5, .int (nI x)), (6, .int (nI s3))], [.int 8, .int 2, .int (nI (e - p0))], M)) rfl rfl rfl ?_
    refine ps_st (S' := (416, [(0, .ref m0), (1, .int 4), (2, .int t), (3, .int (nI p0)), (4, .int (nI e)), (5, .int (nI x)), (6, .int (nI s3))], [.ref m0, .int 8, .int 2, .int (nI (e - p0))], M)) rfl rfl rfl ?_
    refine ps_st (S' := (417, [(0, .ref m0), (1, .int 4), (2, .int t), (3, .int (nI p0)), (4, .int (nI e)), (5, .int (nI x)), (6, .int (nI s3))], [.int (nI p0), .ref m0, .int 8, .int 2, .int (nI (e - p0))], M)) rfl rfl rfl ?_
    refine pl_call (a := [.ref m0, .int (nI p0)]) (rest := [.int 8, .int 2, .int (nI (e - p0))]) rfl rfl rfl (rd_u2 (n := n) (f := f) (p := p0) hR hF (by omega)) (fun v52 M53 q54 => ?_)
    obtain ⟨rfl, rfl⟩ := q54
    show pl _ _ _ (420, [(0, .ref m0), (1, .int 4), (2, .int t), (3, .int (nI p0)), (4, .int (nI e)), (5, .int (nI x)), (6, .int (nI s3))], [.int (nI (by2 f p0)), .int 8, .int 2, .int (nI (e - p0))], M) _
    have hu_417 := by2_lt f p0
    refine ps_st (S' := (421, [(0, .ref m0), (1, .int 4), (2, .int t), (3, .int (nI p0)), (4, .int (nI e)), (5, .int (nI x)), (6, .int (nI s3))], [.int (8 * (nI (by2 f p0))), .int 2, .int (nI (e - p0))], M)) rfl rfl rfl ?_
    rw [nI_mul1 (p := 8) (k := by2 f p0) (x := 8) (y := (nI (by2 f p0))) rfl rfl (by omega)]
    show pl _ _ _ (_, [(0, .ref m0), (1, .int 4), (2, .int t), (3, .int (nI p0)), (4, .int (nI e)), (5, .int (nI x)), (6, .int (nI s3))], [.int (nI (8 * (by2 f p0))), .int 2, .int (nI (e - p0))], M) _
    refine ps_st (S' := (422, [(0, .ref m0), (1, .int 4), (2, .int t), (3, .int (nI p0)), (4, .int (nI e)), (5, .int (nI x)), (6, .int (nI s3))], [.int (2 + (nI (8 * (by2 f p0)))), .int (nI (e - p0))], M)) rfl rfl rfl ?_
    rw [nI_add2 (p := 2) (k := 8 * (by2 f p0)) (x := 2) (y := (nI (8 * (by2 f p0)))) rfl rfl (by omega)]
    show pl _ _ _ (_, [(0, .ref m0), (1, .int 4), (2, .int t), (3, .int (nI p0)), (4, .int (nI e)), (5, .int (nI x)), (6, .int (nI s3))], [.int (nI (2 + 8 * (by2 f p0))), .int (nI (e - p0))], M) _
    refine ps_if2 (S1 := (428, [(0, .ref m0), (1, .int 4), (2, .int t), (3, .int (nI p0)), (4, .int (nI e)), (5, .int (nI x)), (6, .int (nI s3))], [], M)) (S2 := (425, [], [], M)) rfl rfl rfl (fun c_422 => ?_) (fun c_422 => ?_)
    · have c_422 : (nI (e - p0)) = (nI (2 + 8 * (by2 f p0))) := of_decide_eq_true c_422
      have n_422 : e - p0 = 2 + 8 * (by2 f p0) := (eq_nI (p := e - p0) (n := 2 + 8 * (by2 f p0)) (by omega) (by omega)).mp c_422
      refine ps_st (S' := (429, [(0, .ref m0), (1, .int 4), (2, .int t), (3, .int (nI p0)), (4, .int (nI e)), (5, .int (nI x)), (6, .int (nI s3))], [.int 0], M)) rfl rfl rfl ?_
      refine ps_st (S' := (431, [(0, .ref m0), (3, .int (nI p0)), (9, .int 0)], [], M)) rfl rfl rfl ?_
      exact (LL kf) (0) M I R hR hEI hER hi51 hi52 hi53 hF hY hP ((fe_5 (by omega)).trans (congrArg some (by omega))) (by omega) (by omega) (rfl)
    · have c_422 : ¬ ((nI (e - p0)) = (nI (2 + 8 * (by2 f p0)))) := of_decide_eq_false c_422
      have n_422 : ¬ (e - p0 = 2 + 8 * (by2 f p0)) := fun h9 => c_422 ((eq_nI (p := e - p0) (n := 2 + 8 * (by2 f p0)) (by omega) (by omega)).mpr h9)
      refine ps_st (S' := (427, [], [.int 30], M)) rfl rfl rfl ?_
      exact ps_ret rfl rfl (Or.inl ⟨I, R, (fun h9 => (by have h8 := Option.some.inj ((fe_5 (by omega)).symm.trans h9); omega)), rfl, hR, hEI, hER⟩)
set_option maxHeartbeats 4000000 in
theorem rd_attr6 {g : xe_G} {m0 : Nat} {q : Nat → Nat} {z : Nat × Nat} {I : rI} {R : rR} {M : mi_H} {n : Nat} {f : Nat → Int32} {tx : List (List Nat)} {cN : Nat} {A : Nat → Nat} {N mj : Nat} {E : List (Nat × Nat)} {p0 e x s3 : Nat} {t : Int32} (hR : RS g m0 q z I R M) (hi51 : I 51 = some 0) (hi52 : I 52 = some (nI N)) (hi53 : I 53 = some (nI mj)) (hF : FK n f I R) (hY : SYT tx cN A I R) (hP : RPV f n E tx N I R) (hEP : EP f n E) (hN : N < 65536) (hmj : mj < 65536) (he : p0 ≤ e ∧ e ≤ n) (hs3 : s3 < 2048) : pt (mT g) 177 [.ref m0, .int 6, .int t, .int (nI p0), .int (nI e), .int (nI x), .int (nI s3)] M (fun v M' => (∃  (I' : rI) (R' : rR), (¬ s_fe f 7 p0 e = some e) ∧ v = some (.int 30) ∧ RS g m0 q z I' R' M' ∧ eqI [67] I I' ∧ eqR [] R R') ∨ (∃  (I' : rI) (R' : rR), (s_fe f 7 p0 e = some e) ∧ (¬ (tg f E (by2 f p0) = 7 ∧ sb s3 7 = 0)) ∧ v = some (.int 34) ∧ RS g m0 q z I' R' M' ∧ eqI [67] I I' ∧ eqR [] R R') ∨ (∃  (I' : rI) (R' : rR), (s_fe f 7 p0 e = some e) ∧ (tg f E (by2 f p0) = 7 ∧ sb s3 7 = 0) ∧ v = some (.int 0) ∧ RS g m0 q z I' R' M' ∧ eqI [67] I I' ∧ eqR [] R R')) := by
  refine pt_in (b := mb_177 g) rfl (fun kf => ?_)
  show pl (mT g) kf (mb_177 g).2 (0, [(0, .ref m0), (1, .int 6), (2, .int t), (3, .int (nI p0)), (4, .int (nI e)), (5, .int (nI x)), (6, .int (nI s3))], [], M) _
  have hEI : eqI [67] I I := eqI.rf
  have hER : eqR [] R R := eqR.rf
  have hn := hF.1
  have hu9 := by2_lt f p0
  have hs7 := sb_lt s3 7
  refine ps_st (S' := (1, [(0, .ref m0), (1, .int 6), (2, .int t), (3, .int (nI p0)), (4, .int (nI e)), (5, .int (nI x)), (6, .int (nI s3))], [.int 6], M)) rfl rfl rfl ?_
  refine ps_st (S' := (550, [(0, .ref m0), (1, .int 6), (2, .int t), (3, .int (nI p0)), (4, .int (nI e)), (5, .int (nI x)), (6, .int (nI s3))], [], M)) rfl rfl rfl ?_
  refine ps_st (S' := (552, [(0, .ref m0), (1, .int 6), (2, .int t), (3, .int (nI p0)), (4, .int (nI e)), (5, .int (nI x)), (6, .int (nI s3))], [.int (nI e)], M)) rfl rfl rfl ?_
  refine ps_st (S' := (553, [(0, .ref m0), (1, .int 6), (2, .int t), (3, .int (nI p0)), (4, .int (nI e)), (5, .int (nI x)), (6, .int (nI s3))], [.int (nI p0), .int (nI e)], M)) rfl rfl rfl ?_
  refine ps_st (S' := (554, [(0, .ref m0), (1, .int 6), (2, .int t), (3, .int (nI p0)), (4, .int (nI e)), (5, .int (nI x)), (6, .int (nI s3))], [.int ((nI e) - (nI p0))], M)) rfl rfl rfl ?_
  rw [nI_sub1 (p := e) (k := p0) (x := (nI p0)) rfl (by omega) (by omega)]
  show pl _ _ _ (_, [(0, .ref m0), (1, .int 6), (2, .int t), (3, .int (nI p0)), (4, .int (nI e)), (5, .int (nI x)), (6, .int (nI s3))], [.int (nI (e - p0))], M) _
  refine ps_st (S' := (555, [(0, .ref m0), (1, .int 6), (2, .int t), (3, .int (nI p0)), (4, .int (nI e)), (5, .int (nI x)), (6, .int (nI s3))], [.int 2, .int (nI (e - p0))], M)) rfl rfl rfl ?_
  refine ps_if2 (S1 := (561, [(0, .ref m0), (1, .int 6), (2, .int t), (3, .int (nI p0)), (4, .int (nI e)), (5, .int (nI x)), (6, .int (nI s3))], [], M)) (S2 := (558, [(0, .ref m0), (1, .int 6), (2, .int t), (3, .int (nI p0)), (4, .int (nI e)), (5, .int (nI x)), (6, .int (nI s3))], [], M)) rfl rfl rfl (fun c_555 => ?_) (fun c_555 => ?_)
  · have c_555 : (nI (e - p0)) = 2 := of_decide_eq_true c_555
    have n_555 : e - p0 = 2 := (eq_nI (p := e - p0) (n := 2) (by omega) (by decide)).mp c_555
    refine ps_st (S' := (562, [(0, .ref m0), (1, .int 6), (2, .int t), (3, .int (nI p0)), (4, .int (nI e)), (5, .int (nI x)), (6, .int (nI s3))], [.ref m0], M)) rfl rfl rfl ?_
    refine ps_st (S' := (563, [(0, .ref m0), (1, .int 6), (2, .int t), (3, .int (nI p0)), (4, .int (nI e)), (5, .int (nI x)), (6, .int (nI s3))], [.ref m0, .ref m0], M)) rfl rfl rfl ?_
    refine ps_st (S' := (564, [(0, .ref m0), (1, .int 6), (2, .int t), (3, .int (nI p0)), (4, .int (nI e)), (5, .int (nI x)), (6, .int (nI s3))], [.int (nI p0), .ref m0, .ref m0], M)) rfl rfl rfl ?_
    refine pl_call (a := [.ref m0, .int (nI p0)]) (rest := [.ref m0]) rfl rfl rfl (rd_u2 (n := n) (f := f) (p := p0) hR hF (by omega)) (fun v1 M2 q3 => ?_)
    obtain ⟨rfl, rfl⟩ := q3
    show pl _ _ _ (567, [(0, .ref m0), (1, .int 6), (2, .int t), (3, .int (nI p0)), (4, .int (nI e)), (5, .int (nI x)), (6, .int (nI s3))], [.int (nI (by2 f p0)), .ref m0], M) _
    have hu_564 := by2_lt f p0
    refine pl_call (a := [.ref m0, .int (nI (by2 f p0))]) (rest := []) rfl rfl rfl (rd_tag (n := n) (f := f) (tx := tx) (cN := cN) (A := A) (N := N) (mj := mj) (E := E) (k := (by2 f p0)) hR hi51 hi52 hi53 hF hY hP (hEP) (hN) (hmj) (by2_lt _ _)) (fun v4 M5 q6 => ?_)
    obtain ⟨rfl, rfl⟩ := q6
    show pl _ _ _ (570, [(0, .ref m0), (1, .int 6), (2, .int t), (3, .int (nI p0)), (4, .int (nI e)), (5, .int (nI x)), (6, .int (nI s3))], [.int (nI (tg f E (by2 f p0)))], M) _
    have htg_567 := tg_lt f E (by2 f p0)
    refine ps_st (S' := (572, [(0, .ref m0), (1, .int 6), (2, .int t), (3, .int (nI p0)), (4, .int (nI e)), (5, .int (nI x)), (6, .int (nI s3))], [.int 7, .int (nI (tg f E (by2 f p0)))], M)) rfl rfl rfl ?_
    refine ps_if2 (S1 := (586, [], [], M)) (S2 := (575, [(0, .ref m0), (1, .int 6), (2, .int t), (3, .int (nI p0)), (4, .int (nI e)), (5, .int (nI x)), (6, .int (nI s3))], [], M)) rfl rfl rfl (fun c_572 => ?_) (fun c_572 => ?_)
    · have c_572 : ¬ (nI (tg f E (by2 f p0))) = 7 := of_decide_eq_true c_572
      have n_572 : ¬ (tg f E (by2 f p0) = 7) := fun h9 => c_572 ((eq_nI (p := tg f E (by2 f p0)) (n := 7) (Nat.lt_trans (tg_lt _ _ _) (by decide)) (by decide)).mpr h9)
      refine ps_st (S' := (588, [], [.int 34], M)) rfl rfl rfl ?_
      exact ps_ret rfl rfl (Or.inr (Or.inl ⟨I, R, (fe_1 (by decide) (by omega)).trans (congrArg some (by omega)), by omega, rfl, hR, hEI, hER⟩))
    · have c_572 : ¬ (¬ (nI (tg f E (by2 f p0))) = 7) := of_decide_eq_false c_572
      have n_572 : tg f E (by2 f p0) = 7 := (eq_nI (p := tg f E (by2 f p0)) (n := 7) (Nat.lt_trans (tg_lt _ _ _) (by decide)) (by decide)).mp (Decidable.not_not.mp c_572)
      refine ps_st (S' := (577, [(0, .ref m0), (1, .int 6), (2, .int t), (3, .int (nI p0)), (4, .int (nI e)), (5, .int (nI x)), (6, .int (nI s3))], [.int (nI s3)], M)) rfl rfl rfl ?_
      refine ps_st (S' := (579, [(0, .ref m0), (1, .int 6), (2, .int t), (3, .int (nI p0)), (4, .int (nI e)), (5, .int (nI x)), (6, .int (nI s3))], [.int 7, .int (nI s3)], M)) rfl rfl rfl ?_
      refine ps_st (S' := (580, [(0, .ref m0), (1, .int 6), (2, .int t), (3, .int (nI p0)), (4, .int (nI e)), (5, .int (nI x)), (6, .int (nI s3))], [.int ((nI s3) >>> (7 &&& 31))], M)) rfl rfl rfl ?_
      refine ps_st (S' := (581, [(0, .ref m0), (1, .int 6), (2, .int t), (3, .int (nI p0)), (4, .int (nI e)), (5, .int (nI x)), (6, .int (nI s3))], [.int 1, .int ((nI s3) >>> (7 &&& 31))], M)) rfl rfl rfl ?_
      refine ps_st (S' := (582, [(0, .ref m0), (1, .int 6), (2, .int t), (3, .int (nI p0)), (4, .int (nI e)), (5, .int (nI x)), (6, .int (nI s3))], [.int (((nI s3) >>> (7 &&& 31)) &&& 1)], M)) rfl rfl rfl ?_
      rw [show (nI s3 >>> (7 &&& 31)) &&& 1 = nI (sb s3 7) from shr_k s3 (by omega) 7 (by decide)]
      show pl _ _ _ (_, [(0, .ref m0), (1, .int 6), (2, .int t), (3, .int (nI p0)), (4, .int (nI e)), (5, .int (nI x)), (6, .int (nI s3))], [.int (nI (sb s3 7))], M) _
      refine ps_st (S' := (583, [(0, .ref m0), (1, .int 6), (2, .int t), (3, .int (nI p0)), (4, .int (nI e)), (5, .int (nI x)), (6, .int (nI s3))], [.int 1, .int (nI (sb s3 7))], M)) rfl rfl rfl ?_
      refine ps_if2 (S1 := (589, [(0, .ref m0), (1, .int 6), (2, .int t), (3, .int (nI p0)), (4, .int (nI e)), (5, .int (nI x)), (6, .int (nI s3))], [], M)) (S2 := (586, [], [], M)) rfl rfl rfl (fun c_583 => ?_) (fun c_583 => ?_)
      · have c_583 : ¬ (nI (sb s3 7)) = 1 := of_decide_eq_true c_583
        have n_583 : ¬ (sb s3 7 = 1) := fun h9 => c_583 ((eq_nI (p := sb s3 7) (n := 1) (Nat.lt_trans (sb_lt _ _) (by decide)) (by decide)).mpr h9)
        refine ps_st (S' := (590, [(0, .ref m0), (1, .int 6), (2, .int t), (3, .int (nI p0)), (4, .int (nI e)), (5, .int (nI x)), (6, .int (nI s3))], [.ref m0], M)) rfl rfl rfl ?_
        refine ps_st (S' := (591, [(0, .ref m0), (1, .int 6), (2, .int t), (3, .int (nI p0)), (4, .int (nI e)), (5, .int (nI x)), (6, .int (nI s3))], [.ref m0, .ref m0], M)) rfl rfl rfl ?_
        refine ps_st (S' := (592, [(0, .ref m0), (1, .int 6), (2, .int t), (3, .int (nI p0)), (4, .int (nI e)), (5, .int (nI x)), (6, .int (nI s3))], [.int (nI p0), .ref m0, .ref m0], M)) rfl rfl rfl ?_
        refine pl_call (a := [.ref m0, .int (nI p0)]) (rest := [.ref m0]) rfl rfl rfl (rd_u2 (n := n) (f := f) (p := p0) hR hF (by omega)) (fun v7 M8 q9 => ?_)
        obtain ⟨rfl, rfl⟩ := q9
        show pl _ _ _ (595, [(0, .ref m0), (1, .int 6), (2, .int t), (3, .int (nI p0)), (4, .int (nI e)), (5, .int (nI x)), (6, .int (nI s3))], [.int (nI (by2 f p0)), .ref m0], M) _
        have hu_592 := by2_lt f p0
        refine pr_put (j := 67) rfl hR rfl (fun M10 I11 hR12 hi13 hI14 => ?_)
        have hi15 := (hI14 51 (by decide)).trans hi51
        have hi16 := (hI14 52 (by decide)).trans hi52
        have hi17 := (hI14 53 (by decide)).trans hi53
        have hF_18 := hF.mono (pIx hI14 (by decide)) (fun _ _ => rfl)
        have hY_19 := hY.mono (pIx hI14 (by decide)) (fun _ _ => rfl)
        have hP_20 := hP.mono (pIx hI14 (by decide)) (fun _ _ => rfl)
        have hEI21 := hEI.put hI14 (by decide)
        show pl _ _ _ (598, [(0, .ref m0), (1, .int 6), (2, .int t), (3, .int (nI p0)), (4, .int (nI e)), (5, .int (nI x)), (6, .int (nI s3))], [], M10) _
        refine ps_st (S' := (599, [(0, .ref m0), (1, .int 6), (2, .int t), (3, .int (nI p0)), (4, .int (nI e)), (5, .int (nI x)), (6, .int (nI s3))], [.int 0], M10)) rfl rfl rfl ?_
        exact ps_ret rfl rfl (Or.inr (Or.inr ⟨I11, R, (fe_1 (by decide) (by omega)).trans (congrArg some (by omega)), by omega, rfl, hR12, hEI21, hER⟩))
      · have c_583 : ¬ (¬ (nI (sb s3 7)) = 1) := of_decide_eq_false c_583
        have n_583 : sb s3 7 = 1 := (eq_nI (p := sb s3 7) (n := 1) (Nat.lt_trans (sb_lt _ _) (by decide)) (by decide)).mp (Decidable.not_not.mp c_583)
        refine ps_st (S' := (588, [], [.int 34], M)) rfl rfl rfl ?_
        exact ps_ret rfl rfl (Or.inr (Or.inl ⟨I, R, (fe_1 (by decide) (by omega)).trans (congrArg some (by omega)), by omega, rfl, hR, hEI, hER⟩))
  · have c_555 : ¬ ((nI (e - p0)) = 2) := of_decide_eq_false c_555
    have n_555 : ¬ (e - p0 = 2) := fun h9 => c_555 ((eq_nI (p := e - p0) (n := 2) (by omega) (by decide)).mpr h9)
    refine ps_st (S' := (560, [(0, .ref m0), (1, .int 6), (2, .int t), (3, .int (nI p0)), (4, .int (nI e)), (5, .int (nI x)), (6, .int (nI s3))], [.int 30], M)) rfl rfl rfl ?_
    exact ps_ret rfl rfl (Or.inl ⟨I, R, (fun h9 => (by have h7 := s_fe_in h9; have h8 := Option.some.inj ((fe_1 (by decide) (by omega)).symm.trans h9); omega)), rfl, hR, hEI, hER⟩)
set_option maxHeartbeats 4000000 in
theorem rd_attr5 {g : xe_G} {m0 : Nat} {q : Nat → Nat} {z : Nat × Nat} {I : rI} {R : rR} {M : mi_H} {n : Nat} {f : Nat → Int32} {tx : List (List Nat)} {cN : Nat} {A : Nat → Nat} {N mj : Nat} {E : List (Nat × Nat)} {p0 e x s3 : Nat} {t : Int32} (hR : RS g m0 q z I R M) (hi51 : I 51 = some 0) (hi52 : I 52 = some (nI N)) (hi53 : I 53 = some (nI mj)) (hF : FK n f I R) (hY : SYT tx cN A I R) (hP : RPV f n E tx N I R) (hEP : EP f n E) (hN : N < 65536) (hmj : mj < 65536) (he : p0 ≤ e ∧ e ≤ n) (hs3 : s3 < 2048) : pt (mT g) 177 [.ref m0, .int 5, .int t, .int (nI p0), .int (nI e), .int (nI x), .int (nI s3)] M (fun v M' => (∃  (I' : rI) (R' : rR), (¬ s_fe f 6 p0 e = some e) ∧ v = some (.int 30) ∧ RS g m0 q z I' R' M' ∧ eqI [70, 71] I I' ∧ eqR [] R R') ∨ (∃  (I' : rI) (R' : rR), (s_fe f 6 p0 e = some e) ∧ (bsA f E (by2 f p0) (p0 + 2) = 0) ∧ v = some (.int 38) ∧ RS g m0 q z I' R' M' ∧ eqI [70, 71] I I' ∧ eqR [] R R') ∨ (∃  (I' : rI) (R' : rR), (s_fe f 6 p0 e = some e) ∧ (¬ bsA f E (by2 f p0) (p0 + 2) = 0) ∧ v = some (.int 0) ∧ RS g m0 q z I' R' M' ∧ eqI [70, 71] I I' ∧ eqR [] R R' ∧ I' 71 = some (nI (by2 f p0)) ∧ I' 70 = some (nI p0))) := by
  refine pt_in (b := mb_177 g) rfl (fun kf => ?_)
  show pl (mT g) kf (mb_177 g).2 (0, [(0, .ref m0), (1, .int 5), (2, .int t), (3, .int (nI p0)), (4, .int (nI e)), (5, .int (nI x)), (6, .int (nI s3))], [], M) _
  have hEI : eqI [70, 71] I I := eqI.rf
  have hER : eqR [] R R := eqR.rf
  have hn := hF.1
  refine ps_st (S' := (1, [(0, .ref m0), (1, .int 5), (2, .int t), (3, .int (nI p0)), (4, .int (nI e)), (5, .int (nI x)), (6, .int (nI s3))], [.int 5], M)) rfl rfl rfl ?_
  refine ps_st (S' := (542, [(0, .ref m0), (1, .int 5), (2, .int t), (3, .int (nI p0)), (4, .int (nI e)), (5, .int (nI x)), (6, .int (nI s3))], [], M)) rfl rfl rfl ?_
  refine ps_st (S' := (543, [(0, .ref m0), (1, .int 5), (2, .int t), (3, .int (nI p0)), (4, .int (nI e)), (5, .int (nI x)), (6, .int (nI s3))], [.ref m0], M)) rfl rfl rfl ?_
  refine ps_st (S' := (544, [(0, .ref m0), (1, .int 5), (2, .int t), (3, .int (nI p0)), (4, .int (nI e)), (5, .int (nI x)), (6, .int (nI s3))], [.int (nI p0), .ref m0], M)) rfl rfl rfl ?_
  refine ps_st (S' := (546, [(0, .ref m0), (1, .int 5), (2, .int t), (3, .int (nI p0)), (4, .int (nI e)), (5, .int (nI x)), (6, .int (nI s3))], [.int (nI e), .int (nI p0), .ref m0], M)) rfl rfl rfl ?_
  refine pl_call (a := [.ref m0, .int (nI p0), .int (nI e)]) (rest := []) rfl rfl rfl (rd_bootstraps (n := n) (f := f) (tx := tx) (cN := cN) (A := A) (N := N) (mj := mj) (E := E) (p0 := p0) (e := e) hR hi51 hi52 hi53 hF hY hP (hEP) (hN) (hmj) (he)) (fun v1 M2 q3 => ?_)
  rcases q3 with q3 | q3 | q3
  · skip
    obtain ⟨I4, R5, q546_s, rfl, hR6, hI7, hX8⟩ := q3
    have hi9 := (hI7 51 (by decide)).trans hi51
    have hi10 := (hI7 52 (by decide)).trans hi52
    have hi11 := (hI7 53 (by decide)).trans hi53
    have hF_12 := hF.mono (cIx hI7 (by decide)) (cRx hX8 (by decide))
    have hY_13 := hY.mono (cIx hI7 (by decide)) (cRx hX8 (by decide))
    have hP_14 := hP.mono (cIx hI7 (by decide)) (cRx hX8 (by decide))
    have hEI15 := hEI.tr hI7 (by decide)
    have hER16 := hER.tr hX8 (by decide)
    show pl _ _ _ (549, [(0, .ref m0), (1, .int 5), (2, .int t), (3, .int (nI p0)), (4, .int (nI e)), (5, .int (nI x)), (6, .int (nI s3))], [.int 30], M2) _
    exact ps_ret rfl rfl (Or.inl ⟨I4, R5, q546_s, rfl, hR6, hEI15, hER16⟩)
  · skip
    obtain ⟨I17, R18, q546_s, q546_b, rfl, hR19, hI20, hX21⟩ := q3
    have hi22 := (hI20 51 (by decide)).trans hi51
    have hi23 := (hI20 52 (by decide)).trans hi52
    have hi24 := (hI20 53 (by decide)).trans hi53
    have hF_25 := hF.mono (cIx hI20 (by decide)) (cRx hX21 (by decide))
    have hY_26 := hY.mono (cIx hI20 (by decide)) (cRx hX21 (by decide))
    have hP_27 := hP.mono (cIx hI20 (by decide)) (cRx hX21 (by decide))
    have hEI28 := hEI.tr hI20 (by decide)
    have hER29 := hER.tr hX21 (by decide)
    show pl _ _ _ (549, [(0, .ref m0), (1, .int 5), (2, .int t), (3, .int (nI p0)), (4, .int (nI e)), (5, .int (nI x)), (6, .int (nI s3))], [.int 38], M2) _
    exact ps_ret rfl rfl (Or.inr (Or.inl ⟨I17, R18, q546_s, q546_b, rfl, hR19, hEI28, hER29⟩))
  · skip
    obtain ⟨I30, R31, q546_s, q546_b, rfl, hR32, hI33, hX34, hi35, hi36⟩ := q3
    have hi37 := (hI33 51 (by decide)).trans hi51
    have hi38 := (hI33 52 (by decide)).trans hi52
    have hi39 := (hI33 53 (by decide)).trans hi53
    have hF_40 := hF.mono (cIx hI33 (by decide)) (cRx hX34 (by decide))
    have hY_41 := hY.mono (cIx hI33 (by decide)) (cRx hX34 (by decide))
    have hP_42 := hP.mono (cIx hI33 (by decide)) (cRx hX34 (by decide))
    have hEI43 := hEI.tr hI33 (by decide)
    have hER44 := hER.tr hX34 (by decide)
    show pl _ _ _ (549, [(0, .ref m0), (1, .int 5), (2, .int t), (3, .int (nI p0)), (4, .int (nI e)), (5, .int (nI x)), (6, .int (nI s3))], [.int 0], M2) _
    exact ps_ret rfl rfl (Or.inr (Or.inr (⟨I30, R31, q546_s, q546_b, rfl, hR32, hEI43, hER44, hi35, hi36⟩)))
set_option maxHeartbeats 4000000 in
theorem rd_attr8 {g : xe_G} {m0 : Nat} {q : Nat → Nat} {z : Nat × Nat} {I : rI} {R : rR} {M : mi_H} {n : Nat} {f : Nat → Int32} {tx : List (List Nat)} {cN : Nat} {A : Nat → Nat} {N mj : Nat} {E : List (Nat × Nat)} {p0 e x s3 : Nat} {t0 : Int32} {t : Nat} (hR : RS g m0 q z I R M) (hi51 : I 51 = some 0) (hi52 : I 52 = some (nI N)) (hi53 : I 53 = some (nI mj)) (hF : FK n f I R) (hY : SYT tx cN A I R) (hP : RPV f n E tx N I R) (hEP : EP f n E) (hN : N < 65536) (hmj : mj < 65536) (he : p0 ≤ e ∧ e ≤ n) (hs3 : s3 < 2048) : pt (mT g) 177 [.ref m0, .int 8, .int t0, .int (nI p0), .int (nI e), .int (nI x), .int (nI s3)] M (fun v M' => (∃  (I' : rI) (R' : rR), (¬ s_fe f 9 p0 e = some e) ∧ v = some (.int 30) ∧ RS g m0 q z I' R' M' ∧ eqI [47, 48, 72] I I' ∧ eqR [] R R') ∨ (∃  (I' : rI) (R' : rR), (s_fe f 9 p0 e = some e) ∧ (rcS f n E t (by2 f p0) (p0 + 2) = some (37, t)) ∧ v = some (.int 37) ∧ RS g m0 q z I' R' M' ∧ eqI [47, 48, 72] I I' ∧ eqR [] R R') ∨ (∃ (y : Nat) (I' : rI) (R' : rR), (s_fe f 9 p0 e = some e) ∧ (rcS f n E t (by2 f p0) (p0 + 2) = some (28, y)) ∧ v = some (.int (-1)) ∧ RS g m0 q z I' R' M' ∧ eqI [47, 48, 72] I I' ∧ eqR [] R R' ∧ I' 47 = some 28 ∧ I' 48 = some (nI y)) ∨ (∃  (I' : rI) (R' : rR), (s_fe f 9 p0 e = some e) ∧ (rcS f n E t (by2 f p0) (p0 + 2) = none) ∧ v = some (.int 0) ∧ RS g m0 q z I' R' M' ∧ eqI [47, 48, 72] I I' ∧ eqR [] R R' ∧ I' 72 = some (nI (by2 f p0)))) := by
  refine pt_in (b := mb_177 g) rfl (fun kf => ?_)
  show pl (mT g) kf (mb_177 g).2 (0, [(0, .ref m0), (1, .int 8), (2, .int t0), (3, .int (nI p0)), (4, .int (nI e)), (5, .int (nI x)), (6, .int (nI s3))], [], M) _
  have hEI : eqI [47, 48, 72] I I := eqI.rf
  have hER : eqR [] R R := eqR.rf
  have hn := hF.1
  refine ps_st (S' := (1, [(0, .ref m0), (1, .int 8), (2, .int t0), (3, .int (nI p0)), (4, .int (nI e)), (5, .int (nI x)), (6, .int (nI s3))], [.int 8], M)) rfl rfl rfl ?_
  refine ps_st (S' := (600, [(0, .ref m0), (1, .int 8), (2, .int t0), (3, .int (nI p0)), (4, .int (nI e)), (5, .int (nI x)), (6, .int (nI s3))], [], M)) rfl rfl rfl ?_
  refine ps_st (S' := (601, [(0, .ref m0), (1, .int 8), (2, .int t0), (3, .int (nI p0)), (4, .int (nI e)), (5, .int (nI x)), (6, .int (nI s3))], [.ref m0], M)) rfl rfl rfl ?_
  refine ps_st (S' := (602, [(0, .ref m0), (1, .int 8), (2, .int t0), (3, .int (nI p0)), (4, .int (nI e)), (5, .int (nI x)), (6, .int (nI s3))], [.int (nI p0), .ref m0], M)) rfl rfl rfl ?_
  refine ps_st (S' := (604, [(0, .ref m0), (1, .int 8), (2, .int t0), (3, .int (nI p0)), (4, .int (nI e)), (5, .int (nI x)), (6, .int (nI s3))], [.int (nI e), .int (nI p0), .ref m0], M)) rfl rfl rfl ?_
  refine pl_call (a := [.ref m0, .int (nI p0), .int (nI e)]) (rest := []) rfl rfl rfl (rd_components (n := n) (f := f) (tx := tx) (cN := cN) (A := A) (N := N) (mj := mj) (E := E) (p0 := p0) (e := e) (t := t) hR hi51 hi52 hi53 hF hY hP (hEP) (hN) (hmj) (he)) (fun v1 M2 q3 => ?_)
  rcases q3 with q3 | q3 | q3 | q3
  · skip
    obtain ⟨I4, R5, q604_s, rfl, hR6, hI7, hX8⟩ := q3
    have hi9 := (hI7 51 (by decide)).trans hi51
    have hi10 := (hI7 52 (by decide)).trans hi52
    have hi11 := (hI7 53 (by decide)).trans hi53
    have hF_12 := hF.mono (cIx hI7 (by decide)) (cRx hX8 (by decide))
    have hY_13 := hY.mono (cIx hI7 (by decide)) (cRx hX8 (by decide))
    have hP_14 := hP.mono (cIx hI7 (by decide)) (cRx hX8 (by decide))
    have hEI15 := hEI.tr hI7 (by decide)
    have hER16 := hER.tr hX8 (by decide)
    show pl _ _ _ (607, [(0, .ref m0), (1, .int 8), (2, .int t0), (3, .int (nI p0)), (4, .int (nI e)), (5, .int (nI x)), (6, .int (nI s3))], [.int 30], M2) _
    exact ps_ret rfl rfl (Or.inl ⟨I4, R5, q604_s, rfl, hR6, hEI15, hER16⟩)
  · skip
    obtain ⟨I17, R18, q604_s, q604_b, rfl, hR19, hI20, hX21⟩ := q3
    have hi22 := (hI20 51 (by decide)).trans hi51
    have hi23 := (hI20 52 (by decide)).trans hi52
    have hi24 := (hI20 53 (by decide)).trans hi53
    have hF_25 := hF.mono (cIx hI20 (by decide)) (cRx hX21 (by decide))
    have hY_26 := hY.mono (cIx hI20 (by decide)) (cRx hX21 (by decide))
    have hP_27 := hP.mono (cIx hI20 (by decide)) (cRx hX21 (by decide))
    have hEI28 := hEI.tr hI20 (by decide)
    have hER29 := hER.tr hX21 (by decide)
    show pl _ _ _ (607, [(0, .ref m0), (1, .int 8), (2, .int t0), (3, .int (nI p0)), (4, .int (nI e)), (5, .int (nI x)), (6, .int (nI s3))], [.int 37], M2) _
    exact ps_ret rfl rfl (Or.inr (Or.inl ⟨I17, R18, q604_s, q604_b, rfl, hR19, hEI28, hER29⟩))
  · skip
    obtain ⟨y30, I31, R32, q604_s, q604_b, rfl, hR33, hI34, hX35, hi36, hi37⟩ := q3
    have hi38 := (hI34 51 (by decide)).trans hi51
    have hi39 := (hI34 52 (by decide)).trans hi52
    have hi40 := (hI34 53 (by decide)).trans hi53
    have hF_41 := hF.mono (cIx hI34 (by decide)) (cRx hX35 (by decide))
    have hY_42 := hY.mono (cIx hI34 (by decide)) (cRx hX35 (by decide))
    have hP_43 := hP.mono (cIx hI34 (by decide)) (cRx hX35 (by decide))
    have hEI44 := hEI.tr hI34 (by decide)
    have hER45 := hER.tr hX35 (by decide)
    show pl _ _ _ (607, [(0, .ref m0), (1, .int 8), (2, .int t0), (3, .int (nI p0)), (4, .int (nI e)), (5, .int (nI x)), (6, .int (nI s3))], [.int (-1)], M2) _
    exact ps_ret rfl rfl (Or.inr (Or.inr (Or.inl ⟨y30, I31, R32, q604_s, q604_b, rfl, hR33, hEI44, hER45, hi36, hi37⟩)))
  · skip
    obtain ⟨I46, R47, q604_s, q604_b, rfl, hR48, hI49, hX50, hi54⟩ := q3
    have hi55 := (hI49 51 (by decide)).trans hi51
    have hi56 := (hI49 52 (by decide)).trans hi52
    have hi57 := (hI49 53 (by decide)).trans hi53
    have hF_58 := hF.mono (cIx hI49 (by decide)) (cRx hX50 (by decide))
    have hY_59 := hY.mono (cIx hI49 (by decide)) (cRx hX50 (by decide))
    have hP_60 := hP.mono (cIx hI49 (by decide)) (cRx hX50 (by decide))
    have hEI61 := hEI.tr hI49 (by decide)
    have hER62 := hER.tr hX50 (by decide)
    show pl _ _ _ (607, [(0, .ref m0), (1, .int 8), (2, .int t0), (3, .int (nI p0)), (4, .int (nI e)), (5, .int (nI x)), (6, .int (nI s3))], [.int 0], M2) _
    exact ps_ret rfl rfl (Or.inr (Or.inr (Or.inr (⟨I46, R47, q604_s, q604_b, rfl, hR48, hEI61, hER62, hi54⟩))))
set_option maxHeartbeats 4000000 in
theorem rd_attr1 {g : xe_G} {m0 : Nat} {q : Nat → Nat} {z : Nat × Nat} {I : rI} {R : rR} {M : mi_H} {n : Nat} {f : Nat → Int32} {tx : List (List Nat)} {cN : Nat} {A : Nat → Nat} {N mj : Nat} {E : List (Nat × Nat)} {p e x w fl ds : Nat} {l : List Nat} {t : Int32} {s3 : Nat} (hR : RS g m0 q z I R M) (hi51 : I 51 = some 0) (hi52 : I 52 = some (nI N)) (hi53 : I 53 = some (nI mj)) (hF : FK n f I R) (hY : SYT tx cN A I R) (hP : RPV f n E tx N I R) (hK : KX I R) (hEP : EP f n E) (hN : N < 65536) (hmj : mj < 65536) (he : p + 6 ≤ e ∧ e ≤ n) (hx : x < 8300) (hfl : R 34 x = some (nI fl)) (hds : R 36 x = some (nI ds)) (hdt : ds < tx.length ∧ tx.getD ds [] = l) (hmt : ¬ mthN l = 0) (hf6 : fl < 65536) (hw : w = argN l + (if aN fl 8 = 0 then 1 else 0)) : pt (mT g) 177 [.ref m0, .int 1, .int t, .int (nI (p + 6)), .int (nI e), .int (nI x), .int (nI s3)] M (fun v M' => (∃  (I' : rI) (R' : rR), (¬ s_fe f 2 (p + 6) e = some e) ∧ v = some (.int 30) ∧ RS g m0 q z I' R' M' ∧ eqI [47, 48] I I' ∧ eqR [37, 38, 39, 40, 41, 42] R R') ∨ (∃ (r : Nat) (I' : rI) (R' : rR), (s_fe f 2 (p + 6) e = some e) ∧ (cdS f n E mj w p 0 = .inl (r, p)) ∧ (41 ≤ r ∧ r ≤ 43) ∧ v = some (.int (nI r)) ∧ RS g m0 q z I' R' M' ∧ eqI [47, 48] I I' ∧ eqR [37, 38, 39, 40, 41, 42] R R') ∨ (∃ (e9 : Nat × Nat) (I' : rI) (R' : rR), (s_fe f 2 (p + 6) e = some e) ∧ (cdS f n E mj w p 0 = .inl e9) ∧ v = some (.int (-1)) ∧ RS g m0 q z I' R' M' ∧ eqI [47, 48] I I' ∧ eqR [37, 38, 39, 40, 41, 42] R R' ∧ I' 47 = some (nI e9.1) ∧ I' 48 = some (nI e9.2)) ∨ (∃ (s' : Nat) (I' : rI) (R' : rR), (s_fe f 2 (p + 6) e = some e) ∧ (cdS f n E mj w p 0 = .inr s') ∧ (R' 37 x = some (nI (p + 14))) ∧ v = some (.int 0) ∧ RS g m0 q z I' R' M' ∧ eqI [47, 48] I I' ∧ eqR [37, 38, 39, 40, 41, 42] R R')) := by
  refine pt_in (b := mb_177 g) rfl (fun kf => ?_)
  show pl (mT g) kf (mb_177 g).2 (0, [(0, .ref m0), (1, .int 1), (2, .int t), (3, .int (nI (p + 6))), (4, .int (nI e)), (5, .int (nI x)), (6, .int (nI s3))], [], M) _
  have hEI : eqI [47, 48] I I := eqI.rf
  have hER : eqR [37, 38, 39, 40, 41, 42] R R := eqR.rf
  have hn := hF.1
  refine ps_st (S' := (1, [(0, .ref m0), (1, .int 1), (2, .int t), (3, .int (nI (p + 6))), (4, .int (nI e)), (5, .int (nI x)), (6, .int (nI s3))], [.int 1], M)) rfl rfl rfl ?_
  refine ps_st (S' := (208, [(0, .ref m0), (1, .int 1), (2, .int t), (3, .int (nI (p + 6))), (4, .int (nI e)), (5, .int (nI x)), (6, .int (nI s3))], [], M)) rfl rfl rfl ?_
  refine ps_st (S' := (209, [(0, .ref m0), (1, .int 1), (2, .int t), (3, .int (nI (p + 6))), (4, .int (nI e)), (5, .int (nI x)), (6, .int (nI s3))], [.ref m0], M)) rfl rfl rfl ?_
  refine ps_st (S' := (210, [(0, .ref m0), (1, .int 1), (2, .int t), (3, .int (nI (p + 6))), (4, .int (nI e)), (5, .int (nI x)), (6, .int (nI s3))], [.int t, .ref m0], M)) rfl rfl rfl ?_
  refine ps_st (S' := (211, [(0, .ref m0), (1, .int 1), (2, .int t), (3, .int (nI (p + 6))), (4, .int (nI e)), (5, .int (nI x)), (6, .int (nI s3))], [.int (nI (p + 6)), .int t, .ref m0], M)) rfl rfl rfl ?_
  refine ps_st (S' := (213, [(0, .ref m0), (1, .int 1), (2, .int t), (3, .int (nI (p + 6))), (4, .int (nI e)), (5, .int (nI x)), (6, .int (nI s3))], [.int (nI e), .int (nI (p + 6)), .int t, .ref m0], M)) rfl rfl rfl ?_
  refine ps_st (S' := (215, [(0, .ref m0), (1, .int 1), (2, .int t), (3, .int (nI (p + 6))), (4, .int (nI e)), (5, .int (nI x)), (6, .int (nI s3))], [.int (nI x), .int (nI e), .int (nI (p + 6)), .int t, .ref m0], M)) rfl rfl rfl ?_
  refine pl_call (a := [.ref m0, .int t, .int (nI (p + 6)), .int (nI e), .int (nI x)]) (rest := []) rfl rfl rfl (rd_code (n := n) (f := f) (tx := tx) (cN := cN) (A := A) (N := N) (mj := mj) (E := E) (p := p) (e := e) (x := x) (w := w) (fl := fl) (ds := ds) (l := l) (t := t) hR hi51 hi52 hi53 hF hY hP hK (hEP) (hN) (hmj) (he) (hx) (hfl) (hds) (hdt) (hmt) (hf6) (hw)) (fun v1 M2 q3 => ?_)
  rcases q3 with q3 | q3 | q3 | q3
  · skip
    obtain ⟨I4, R5, q215_s, rfl, hR6, hI7, hX8⟩ := q3
    have hi9 := (hI7 51 (by decide)).trans hi51
    have hi10 := (hI7 52 (by decide)).trans hi52
    have hi11 := (hI7 53 (by decide)).trans hi53
    have hF_12 := hF.mono (cIx hI7 (by decide)) (cRx hX8 (by decide))
    have hY_13 := hY.mono (cIx hI7 (by decide)) (cRx hX8 (by decide))
    have hP_14 := hP.mono (cIx hI7 (by decide)) (cRx hX8 (by decide))
    have hK_15 := hK.mono (cIx hI7 (by decide)) (cRx hX8 (by decide))
    have hEI16 := hEI.tr hI7 (by decide)
    have hER17 := hER.tr hX8 (by decide)
    show pl _ _ _ (218, [(0, .ref m0), (1, .int 1), (2, .int t), (3, .int (nI (p + 6))), (4, .int (nI e)), (5, .int (nI x)), (6, .int (nI s3))], [.int 30], M2) _
    exact ps_ret rfl rfl (Or.inl ⟨I4, R5, (by rw [fe_cd]; exact q215_s), rfl, hR6, hEI16, hER17⟩)
  · skip
    obtain ⟨r18, I19, R20, q215_s, q215_b, q215_l, rfl, hR21, hI22, hX23⟩ := q3
    have hi24 := (hI22 51 (by decide)).trans hi51
    have hi25 := (hI22 52 (by decide)).trans hi52
    have hi26 := (hI22 53 (by decide)).trans hi53
    have hF_27 := hF.mono (cIx hI22 (by decide)) (cRx hX23 (by decide))
    have hY_28 := hY.mono (cIx hI22 (by decide)) (cRx hX23 (by decide))
    have hP_29 := hP.mono (cIx hI22 (by decide)) (cRx hX23 (by decide))
    have hK_30 := hK.mono (cIx hI22 (by decide)) (cRx hX23 (by decide))
    have hEI31 := hEI.tr hI22 (by decide)
    have hER32 := hER.tr hX23 (by decide)
    show pl _ _ _ (218, [(0, .ref m0), (1, .int 1), (2, .int t), (3, .int (nI (p + 6))), (4, .int (nI e)), (5, .int (nI x)), (6, .int (nI s3))], [.int (nI r18)], M2) _
    exact ps_reti rfl (Or.inr (Or.inl ⟨r18, I19, R20, (by rw [fe_cd]; exact q215_s), q215_b, q215_l, rfl, hR21, hEI31, hER32⟩))
  · skip
    obtain ⟨e933, I34, R35, q215_s, q215_b, rfl, hR36, hI37, hX38, hi39, hi40⟩ := q3
    have hi41 := (hI37 51 (by decide)).trans hi51
    have hi42 := (hI37 52 (by decide)).trans hi52
    have hi43 := (hI37 53 (by decide)).trans hi53
    have hF_44 := hF.mono (cIx hI37 (by decide)) (cRx hX38 (by decide))
    have hY_45 := hY.mono (cIx hI37 (by decide)) (cRx hX38 (by decide))
    have hP_46 := hP.mono (cIx hI37 (by decide)) (cRx hX38 (by decide))
    have hK_47 := hK.mono (cIx hI37 (by decide)) (cRx hX38 (by decide))
    have hEI48 := hEI.tr hI37 (by decide)
    have hER49 := hER.tr hX38 (by decide)
    show pl _ _ _ (218, [(0, .ref m0), (1, .int 1), (2, .int t), (3, .int (nI (p + 6))), (4, .int (nI e)), (5, .int (nI x)), (6, .int (nI s3))], [.int (-1)], M2) _
    exact ps_ret rfl rfl (Or.inr (Or.inr (Or.inl ⟨e933, I34, R35, (by rw [fe_cd]; exact q215_s), q215_b, rfl, hR36, hEI48, hER49, hi39, hi40⟩)))
  · skip
    obtain ⟨s'50, I51, R52, q215_s, q215_b, q215_c, rfl, hR53, hI54, hX55⟩ := q3
    have hi56 := (hI54 51 (by decide)).trans hi51
    have hi57 := (hI54 52 (by decide)).trans hi52
    have hi58 := (hI54 53 (by decide)).trans hi53
    have hF_59 := hF.mono (cIx hI54 (by decide)) (cRx hX55 (by decide))
    have hY_60 := hY.mono (cIx hI54 (by decide)) (cRx hX55 (by decide))
    have hP_61 := hP.mono (cIx hI54 (by decide)) (cRx hX55 (by decide))
    have hK_62 := hK.mono (cIx hI54 (by decide)) (cRx hX55 (by decide))
    have hEI63 := hEI.tr hI54 (by decide)
    have hER64 := hER.tr hX55 (by decide)
    show pl _ _ _ (218, [(0, .ref m0), (1, .int 1), (2, .int t), (3, .int (nI (p + 6))), (4, .int (nI e)), (5, .int (nI x)), (6, .int (nI s3))], [.int 0], M2) _
    exact ps_ret rfl rfl (Or.inr (Or.inr (Or.inr (⟨s'50, I51, R52, (by rw [fe_cd]; exact q215_s), q215_b, q215_c, rfl, hR53, hEI63, hER64⟩))))
set_option maxHeartbeats 4000000 in
theorem rd_attr0 {g : xe_G} {m0 : Nat} {q : Nat → Nat} {z : Nat × Nat} {I : rI} {R : rR} {M : mi_H} {n : Nat} {f : Nat → Int32} {tx : List (List Nat)} {cN : Nat} {A : Nat → Nat} {N mj : Nat} {E : List (Nat × Nat)} {p0 e x s3 : Nat} {t : Int32} {fl ds : Nat} {l : List Nat} (hR : RS g m0 q z I R M) (hi51 : I 51 = some 0) (hi52 : I 52 = some (nI N)) (hi53 : I 53 = some (nI mj)) (hF : FK n f I R) (hY : SYT tx cN A I R) (hP : RPV f n E tx N I R) (hEP : EP f n E) (hN : N < 65536) (hmj : mj < 65536) (he : p0 ≤ e ∧ e ≤ n) (hs3 : s3 < 2048) (hx : x < 8300) (hfl : R 27 x = some (nI fl)) (hds : R 29 x = some (nI ds)) (hdt : ds < tx.length ∧ tx.getD ds [] = l) (hfd : ¬ fldN l = 0) (hf6 : fl < 65536) : pt (mT g) 177 [.ref m0, .int 0, .int t, .int (nI p0), .int (nI e), .int (nI x), .int (nI s3)] M (fun v M' => (∃  (I' : rI) (R' : rR), (¬ s_fe f 1 p0 e = some e) ∧ v = some (.int 30) ∧ RS g m0 q z I' R' M' ∧ eqI [] I I' ∧ eqR [30] R R') ∨ (∃  (I' : rI) (R' : rR), (s_fe f 1 p0 e = some e) ∧ (¬ aN fl 8 = 0 ∧ ¬ ctS l = some (tg f E (by2 f p0))) ∧ v = some (.int 31) ∧ RS g m0 q z I' R' M' ∧ eqI [] I I' ∧ eqR [30] R R') ∨ (∃  (I' : rI) (R' : rR), (s_fe f 1 p0 e = some e) ∧ (aN fl 8 = 0 ∨ ctS l = some (tg f E (by2 f p0))) ∧ v = some (.int 0) ∧ RS g m0 q z I' R' M' ∧ eqI [] I I' ∧ eqR [30] R R')) := by
  refine pt_in (b := mb_177 g) rfl (fun kf => ?_)
  show pl (mT g) kf (mb_177 g).2 (0, [(0, .ref m0), (1, .int 0), (2, .int t), (3, .int (nI p0)), (4, .int (nI e)), (5, .int (nI x)), (6, .int (nI s3))], [], M) _
  have hEI : eqI [] I I := eqI.rf
  have hER : eqR [30] R R := eqR.rf
  have hn := hF.1
  have hu9 := by2_lt f p0
  have hct := ct_in hfd
  refine ps_st (S' := (1, [(0, .ref m0), (1, .int 0), (2, .int t), (3, .int (nI p0)), (4, .int (nI e)), (5, .int (nI x)), (6, .int (nI s3))], [.int 0], M)) rfl rfl rfl ?_
  refine ps_st (S' := (56, [(0, .ref m0), (1, .int 0), (2, .int t), (3, .int (nI p0)), (4, .int (nI e)), (5, .int (nI x)), (6, .int (nI s3))], [], M)) rfl rfl rfl ?_
  refine ps_st (S' := (58, [(0, .ref m0), (1, .int 0), (2, .int t), (3, .int (nI p0)), (4, .int (nI e)), (5, .int (nI x)), (6, .int (nI s3))], [.int (nI e)], M)) rfl rfl rfl ?_
  refine ps_st (S' := (59, [(0, .ref m0), (1, .int 0), (2, .int t), (3, .int (nI p0)), (4, .int (nI e)), (5, .int (nI x)), (6, .int (nI s3))], [.int (nI p0), .int (nI e)], M)) rfl rfl rfl ?_
  refine ps_st (S' := (60, [(0, .ref m0), (1, .int 0), (2, .int t), (3, .int (nI p0)), (4, .int (nI e)), (5, .int (nI x)), (6, .int (nI s3))], [.int ((nI e) - (nI p0))], M)) rfl rfl rfl ?_
  rw [nI_sub1 (p := e) (k := p0) (x := (nI p0)) rfl (by omega) (by omega)]
  show pl _ _ _ (_, [(0, .ref m0), (1, .int 0), (2, .int t), (3, .int (nI p0)), (4, .int (nI e)), (5, .int (nI x)), (6, .int (nI s3))], [.int (nI (e - p0))], M) _
  refine ps_st (S' := (61, [(0, .ref m0), (1, .int 0), (2, .int t), (3, .int (nI p0)), (4, .int (nI e)), (5, .int (nI x)), (6, .int (nI s3))], [.int 2, .int (nI (e - p0))], M)) rfl rfl rfl ?_
  refine ps_if2 (S1 := (67, [(0, .ref m0), (1, .int 0), (2, .int t), (3, .int (nI p0)), (4, .int (nI e)), (5, .int (nI x)), (6, .int (nI s3))], [], M)) (S2 := (64, [(0, .ref m0), (1, .int 0), (2, .int t), (3, .int (nI p0)), (4, .int (nI e)), (5, .int (nI x)), (6, .int (nI s3))], [], M)) rfl rfl rfl (fun c_61 => ?_) (fun c_61 => ?_)
  · have c_61 : (nI (e - p0)) = 2 := of_decide_eq_true c_61
    have n_61 : e - p0 = 2 := (eq_nI (p := e - p0) (n := 2) (by omega) (by decide)).mp c_61
    refine ps_st (S' := (68, [(0, .ref m0), (1, .int 0), (2, .int t), (3, .int (nI p0)), (4, .int (nI e)), (5, .int (nI x)), (6, .int (nI s3))], [.ref m0], M)) rfl rfl rfl ?_
    refine pr_ref (j := 27) (S' := (71, [(0, .ref m0), (1, .int 0), (2, .int t), (3, .int (nI p0)), (4, .int (nI e)), (5, .int (nI x)), (6, .int (nI s3))], [.ref (q 27)], M)) rfl hR rfl rfl ?_
    refine ps_st (S' := (73, [(0, .ref m0), (1, .int 0), (2, .int t), (3, .int (nI p0)), (4, .int (nI e)), (5, .int (nI x)), (6, .int (nI s3))], [.int (nI x), .ref (q 27)], M)) rfl rfl rfl ?_
    refine pr_ld (a := 27) (j := x) (y := (nI fl)) (S' := (74, [(0, .ref m0), (1, .int 0), (2, .int t), (3, .int (nI p0)), (4, .int (nI e)), (5, .int (nI x)), (6, .int (nI s3))], [.int (nI fl)], M)) rfl hR rfl (by omega) (fun _ => hfl) rfl (fun i1_73 => ?_)
    refine ps_st (S' := (76, [(0, .ref m0), (1, .int 0), (2, .int t), (3, .int (nI p0)), (4, .int (nI e)), (5, .int (nI x)), (6, .int (nI s3))], [.int 8, .int (nI fl)], M)) rfl rfl rfl ?_
    refine ps_st (S' := (77, [(0, .ref m0), (1, .int 0), (2, .int t), (3, .int (nI p0)), (4, .int (nI e)), (5, .int (nI x)), (6, .int (nI s3))], [.int ((nI fl) &&& 8)], M)) rfl rfl rfl ?_
    rw [nI_an (p := fl) (k := 8) (x := 8) rfl]
    show pl _ _ _ (_, [(0, .ref m0), (1, .int 0), (2, .int t), (3, .int (nI p0)), (4, .int (nI e)), (5, .int (nI x)), (6, .int (nI s3))], [.int (nI (aN fl 8))], M) _
    refine ps_if (S1 := (82, [(0, .ref m0), (1, .int 0), (2, .int t), (3, .int (nI p0)), (4, .int (nI e)), (5, .int (nI x)), (6, .int (nI s3))], [], M)) (S2 := (80, [(0, .ref m0), (1, .int 0), (2, .int t), (3, .int (nI p0)), (4, .int (nI e)), (5, .int (nI x)), (6, .int (nI s3))], [], M)) rfl rfl rfl (fun c_77 => ?_) (fun c_77 => ?_)
    · have c_77 : ¬ (nI (aN fl 8)) = 0 := of_decide_eq_true c_77
      have n_77 : ¬ (aN fl 8 = 0) := fun h9 => c_77 ((eq_nI (p := aN fl 8) (n := 0) (Nat.lt_of_le_of_lt (an_le _ _) (by decide)) (by decide)).mpr h9)
      refine ps_st (S' := (83, [(0, .ref m0), (1, .int 0), (2, .int t), (3, .int (nI p0)), (4, .int (nI e)), (5, .int (nI x)), (6, .int (nI s3))], [.ref m0], M)) rfl rfl rfl ?_
      refine ps_st (S' := (84, [(0, .ref m0), (1, .int 0), (2, .int t), (3, .int (nI p0)), (4, .int (nI e)), (5, .int (nI x)), (6, .int (nI s3))], [.ref m0, .ref m0], M)) rfl rfl rfl ?_
      refine pr_ref (j := 29) (S' := (87, [(0, .ref m0), (1, .int 0), (2, .int t), (3, .int (nI p0)), (4, .int (nI e)), (5, .int (nI x)), (6, .int (nI s3))], [.ref (q 29), .ref m0], M)) rfl hR rfl rfl ?_
      refine ps_st (S' := (89, [(0, .ref m0), (1, .int 0), (2, .int t), (3, .int (nI p0)), (4, .int (nI e)), (5, .int (nI x)), (6, .int (nI s3))], [.int (nI x), .ref (q 29), .ref m0], M)) rfl rfl rfl ?_
      refine pr_ld (a := 29) (j := x) (y := (nI ds)) (S' := (90, [(0, .ref m0), (1, .int 0), (2, .int t), (3, .int (nI p0)), (4, .int (nI e)), (5, .int (nI x)), (6, .int (nI s3))], [.int (nI ds), .ref m0], M)) rfl hR rfl (by omega) (fun _ => hds) rfl (fun i1_89 => ?_)
      refine ps_st (S' := (91, [(0, .ref m0), (1, .int 0), (2, .int t), (3, .int (nI p0)), (4, .int (nI e)), (5, .int (nI x)), (6, .int (nI s3))], [.int 0, .int (nI ds), .ref m0], M)) rfl rfl rfl ?_
      refine pl_call (a := [.ref m0, .int (nI ds), .int 0]) (rest := []) rfl rfl rfl (rd_at (tx := tx) (cN := cN) (A := A) (s := ds) (l := l) (k := 0) hR hY (hdt) (by omega)) (fun v1 M2 q3 => ?_)
      obtain ⟨rfl, rfl⟩ := q3
      show pl _ _ _ (94, [(0, .ref m0), (1, .int 0), (2, .int t), (3, .int (nI p0)), (4, .int (nI e)), (5, .int (nI x)), (6, .int (nI s3))], [.int (nI (l.getD 0 0))], M) _
      have hc_91 := hY.ch hdt (k := 0) (by omega)
      refine ps_st (S' := (96, [(7, .int (nI (l.getD 0 0))), (0, .ref m0), (1, .int 0), (2, .int t), (3, .int (nI p0)), (4, .int (nI e)), (5, .int (nI x)), (6, .int (nI s3))], [], M)) rfl rfl rfl ?_
      refine ps_st (S' := (98, [(7, .int (nI (l.getD 0 0))), (0, .ref m0), (1, .int 0), (2, .int t), (3, .int (nI p0)), (4, .int (nI e)), (5, .int (nI x)), (6, .int (nI s3))], [.int (nI (l.getD 0 0))], M)) rfl rfl rfl ?_
      refine ps_st (S' := (100, [(7, .int (nI (l.getD 0 0))), (0, .ref m0), (1, .int 0), (2, .int t), (3, .int (nI p0)), (4, .int (nI e)), (5, .int (nI x)), (6, .int (nI s3))], [.int 74, .int (nI (l.getD 0 0))], M)) rfl rfl rfl ?_
      refine ps_if2 (S1 := (107, [(7, .int (nI (l.getD 0 0))), (0, .ref m0), (1, .int 0), (2, .int t), (3, .int (nI p0)), (4, .int (nI e)), (5, .int (nI x)), (6, .int (nI s3))], [], M)) (S2 := (103, [(7, .int (nI (l.getD 0 0))), (0, .ref m0), (1, .int 0), (2, .int t), (3, .int (nI p0)), (4, .int (nI e)), (5, .int (nI x)), (6, .int (nI s3))], [], M)) rfl rfl rfl (fun c_100 => ?_) (fun c_100 => ?_)
      · have c_100 : ¬ (nI (l.getD 0 0)) = 74 := of_decide_eq_true c_100
        have n_100 : ¬ (l.getD 0 0 = 74) := fun h9 => c_100 ((eq_nI (p := l.getD 0 0) (n := 74) (by omega) (by decide)).mpr h9)
        refine ps_st (S' := (109, [(7, .int (nI (l.getD 0 0))), (0, .ref m0), (1, .int 0), (2, .int t), (3, .int (nI p0)), (4, .int (nI e)), (5, .int (nI x)), (6, .int (nI s3))], [.int (nI (l.getD 0 0))], M)) rfl rfl rfl ?_
        refine ps_st (S' := (111, [(7, .int (nI (l.getD 0 0))), (0, .ref m0), (1, .int 0), (2, .int t), (3, .int (nI p0)), (4, .int (nI e)), (5, .int (nI x)), (6, .int (nI s3))], [.int 70, .int (nI (l.getD 0 0))], M)) rfl rfl rfl ?_
        refine ps_if2 (S1 := (118, [(7, .int (nI (l.getD 0 0))), (0, .ref m0), (1, .int 0), (2, .int t), (3, .int (nI p0)), (4, .int (nI e)), (5, .int (nI x)), (6, .int (nI s3))], [], M)) (S2 := (114, [(7, .int (nI (l.getD 0 0))), (0, .ref m0), (1, .int 0), (2, .int t), (3, .int (nI p0)), (4, .int (nI e)), (5, .int (nI x)), (6, .int (nI s3))], [], M)) rfl rfl rfl (fun c_111 => ?_) (fun c_111 => ?_)
        · have c_111 : ¬ (nI (l.getD 0 0)) = 70 := of_decide_eq_true c_111
          have n_111 : ¬ (l.getD 0 0 = 70) := fun h9 => c_111 ((eq_nI (p := l.getD 0 0) (n := 70) (by omega) (by decide)).mpr h9)
          refine ps_st (S' := (120, [(7, .int (nI (l.getD 0 0))), (0, .ref m0), (1, .int 0), (2, .int t), (3, .int (nI p0)), (4, .int (nI e)), (5, .int (nI x)), (6, .int (nI s3))], [.int (nI (l.getD 0 0))], M)) rfl rfl rfl ?_
          refine ps_st (S' := (122, [(7, .int (nI (l.getD 0 0))), (0, .ref m0), (1, .int 0), (2, .int t), (3, .int (nI p0)), (4, .int (nI e)), (5, .int (nI x)), (6, .int (nI s3))], [.int 68, .int (nI (l.getD 0 0))], M)) rfl rfl rfl ?_
          refine ps_if2 (S1 := (130, [(7, .int (nI (l.getD 0 0))), (0, .ref m0), (1, .int 0), (2, .int t), (3, .int (nI p0)), (4, .int (nI e)), (5, .int (nI x)), (6, .int (nI s3))], [], M)) (S2 := (125, [(7, .int (nI (l.getD 0 0))), (0, .ref m0), (1, .int 0), (2, .int t), (3, .int (nI p0)), (4, .int (nI e)), (5, .int (nI x)), (6, .int (nI s3))], [], M)) rfl rfl rfl (fun c_122 => ?_) (fun c_122 => ?_)
          · have c_122 : ¬ (nI (l.getD 0 0)) = 68 := of_decide_eq_true c_122
            have n_122 : ¬ (l.getD 0 0 = 68) := fun h9 => c_122 ((eq_nI (p := l.getD 0 0) (n := 68) (by omega) (by decide)).mpr h9)
            refine ps_st (S' := (132, [(7, .int (nI (l.getD 0 0))), (0, .ref m0), (1, .int 0), (2, .int t), (3, .int (nI p0)), (4, .int (nI e)), (5, .int (nI x)), (6, .int (nI s3))], [.int (nI (l.getD 0 0))], M)) rfl rfl rfl ?_
            refine ps_st (S' := (134, [(7, .int (nI (l.getD 0 0))), (0, .ref m0), (1, .int 0), (2, .int t), (3, .int (nI p0)), (4, .int (nI e)), (5, .int (nI x)), (6, .int (nI s3))], [.int 76, .int (nI (l.getD 0 0))], M)) rfl rfl rfl ?_
            refine ps_if2 (S1 := (163, [(7, .int (nI (l.getD 0 0))), (0, .ref m0), (1, .int 0), (2, .int t), (3, .int (nI p0)), (4, .int (nI e)), (5, .int (nI x)), (6, .int (nI s3))], [], M)) (S2 := (137, [(7, .int (nI (l.getD 0 0))), (0, .ref m0), (1, .int 0), (2, .int t), (3, .int (nI p0)), (4, .int (nI e)), (5, .int (nI x)), (6, .int (nI s3))], [], M)) rfl rfl rfl (fun c_134 => ?_) (fun c_134 => ?_)
            · have c_134 : ¬ (nI (l.getD 0 0)) = 76 := of_decide_eq_true c_134
              have n_134 : ¬ (l.getD 0 0 = 76) := fun h9 => c_134 ((eq_nI (p := l.getD 0 0) (n := 76) (by omega) (by decide)).mpr h9)
              refine ps_st (S' := (165, [(7, .int (nI (l.getD 0 0))), (0, .ref m0), (1, .int 0), (2, .int t), (3, .int (nI p0)), (4, .int (nI e)), (5, .int (nI x)), (6, .int (nI s3))], [.int (nI (l.getD 0 0))], M)) rfl rfl rfl ?_
              refine ps_st (S' := (167, [(7, .int (nI (l.getD 0 0))), (0, .ref m0), (1, .int 0), (2, .int t), (3, .int (nI p0)), (4, .int (nI e)), (5, .int (nI x)), (6, .int (nI s3))], [.int 91, .int (nI (l.getD 0 0))], M)) rfl rfl rfl ?_
              refine ps_if2 (S1 := (174, [(7, .int (nI (l.getD 0 0))), (0, .ref m0), (1, .int 0), (2, .int t), (3, .int (nI p0)), (4, .int (nI e)), (5, .int (nI x)), (6, .int (nI s3))], [], M)) (S2 := (170, [(7, .int (nI (l.getD 0 0))), (0, .ref m0), (1, .int 0), (2, .int t), (3, .int (nI p0)), (4, .int (nI e)), (5, .int (nI x)), (6, .int (nI s3))], [], M)) rfl rfl rfl (fun c_167 => ?_) (fun c_167 => ?_)
              · have c_167 : ¬ (nI (l.getD 0 0)) = 91 := of_decide_eq_true c_167
                have n_167 : ¬ (l.getD 0 0 = 91) := fun h9 => c_167 ((eq_nI (p := l.getD 0 0) (n := 91) (by omega) (by decide)).mpr h9)
                refine ps_st (S' := (175, [(0, .ref m0), (3, .int (nI p0)), (5, .int (nI x))], [.int 3], M)) rfl rfl rfl ?_
                refine ps_st (S' := (177, [(8, .int 3), (0, .ref m0), (3, .int (nI p0)), (5, .int (nI x))], [], M)) rfl rfl rfl ?_
                refine ps_st (S' := (178, [(8, .int 3), (0, .ref m0), (3, .int (nI p0)), (5, .int (nI x))], [.ref m0], M)) rfl rfl rfl ?_
                refine ps_st (S' := (179, [(8, .int 3), (0, .ref m0), (3, .int (nI p0)), (5, .int (nI x))], [.ref m0, .ref m0], M)) rfl rfl rfl ?_
                refine ps_st (S' := (180, [(8, .int 3), (0, .ref m0), (3, .int (nI p0)), (5, .int (nI x))], [.int (nI p0), .ref m0, .ref m0], M)) rfl rfl rfl ?_
                refine pl_call (a := [.ref m0, .int (nI p0)]) (rest := [.ref m0]) rfl rfl rfl (rd_u2 (n := n) (f := f) (p := p0) hR hF (by omega)) (fun v4 M5 q6 => ?_)
                obtain ⟨rfl, rfl⟩ := q6
                show pl _ _ _ (183, [(8, .int 3), (0, .ref m0), (3, .int (nI p0)), (5, .int (nI x))], [.int (nI (by2 f p0)), .ref m0], M) _
                have hu_180 := by2_lt f p0
                refine pl_call (a := [.ref m0, .int (nI (by2 f p0))]) (rest := []) rfl rfl rfl (rd_tag (n := n) (f := f) (tx := tx) (cN := cN) (A := A) (N := N) (mj := mj) (E := E) (k := (by2 f p0)) hR hi51 hi52 hi53 hF hY hP (hEP) (hN) (hmj) (by2_lt _ _)) (fun v7 M8 q9 => ?_)
                obtain ⟨rfl, rfl⟩ := q9
                show pl _ _ _ (186, [(8, .int 3), (0, .ref m0), (3, .int (nI p0)), (5, .int (nI x))], [.int (nI (tg f E (by2 f p0)))], M) _
                have htg_183 := tg_lt f E (by2 f p0)
                refine ps_st (S' := (188, [(8, .int 3), (0, .ref m0), (3, .int (nI p0)), (5, .int (nI x))], [.int 3, .int (nI (tg f E (by2 f p0)))], M)) rfl rfl rfl ?_
                refine ps_if2 (S1 := (194, [(8, .int 3), (0, .ref m0), (3, .int (nI p0)), (5, .int (nI x))], [], M)) (S2 := (191, [(8, .int 3), (0, .ref m0), (3, .int (nI p0)), (5, .int (nI x))], [], M)) rfl rfl rfl (fun c_188 => ?_) (fun c_188 => ?_)
                · have c_188 : (nI (tg f E (by2 f p0))) = 3 := of_decide_eq_true c_188
                  have n_188 : tg f E (by2 f p0) = 3 := (eq_nI (p := tg f E (by2 f p0)) (n := 3) (Nat.lt_trans (tg_lt _ _ _) (by decide)) (by decide)).mp c_188
                  refine ps_st (S' := (195, [(8, .int 3), (0, .ref m0), (3, .int (nI p0)), (5, .int (nI x))], [.ref m0], M)) rfl rfl rfl ?_
                  refine pr_ref (j := 30) (S' := (198, [(8, .int 3), (0, .ref m0), (3, .int (nI p0)), (5, .int (nI x))], [.ref (q 30)], M)) rfl hR rfl rfl ?_
                  refine ps_st (S' := (200, [(8, .int 3), (0, .ref m0), (3, .int (nI p0)), (5, .int (nI x))], [.int (nI x), .ref (q 30)], M)) rfl rfl rfl ?_
                  refine ps_st (S' := (201, [(8, .int 3), (0, .ref m0), (3, .int (nI p0)), (5, .int (nI x))], [.ref m0, .int (nI x), .ref (q 30)], M)) rfl rfl rfl ?_
                  refine ps_st (S' := (202, [(8, .int 3), (0, .ref m0), (3, .int (nI p0)), (5, .int (nI x))], [.int (nI p0), .ref m0, .int (nI x), .ref (q 30)], M)) rfl rfl rfl ?_
                  refine pl_call (a := [.ref m0, .int (nI p0)]) (rest := [.int (nI x), .ref (q 30)]) rfl rfl rfl (rd_u2 (n := n) (f := f) (p := p0) hR hF (by omega)) (fun v10 M11 q12 => ?_)
                  obtain ⟨rfl, rfl⟩ := q12
                  show pl _ _ _ (205, [(8, .int 3), (0, .ref m0), (3, .int (nI p0)), (5, .int (nI x))], [.int (nI (by2 f p0)), .int (nI x), .ref (q 30)], M) _
                  have hu_202 := by2_lt f p0
                  refine pr_st (a := 30) (j := x) rfl hR rfl (by omega) (fun M13 R14 i1_205 hR15 hS16 => ?_)
                  have hF_17 := hF.mono (fun _ _ => rfl) (rRx hS16 (by decide))
                  have hY_18 := hY.mono (fun _ _ => rfl) (rRx hS16 (by decide))
                  have hP_19 := hP.mono (fun _ _ => rfl) (rRx hS16 (by decide))
                  have hER20 := hER.st hS16 (by decide)
                  show pl _ _ _ (206, [(8, .int 3), (0, .ref m0), (3, .int (nI p0)), (5, .int (nI x))], [], M13) _
                  refine ps_st (S' := (207, [(8, .int 3), (0, .ref m0), (3, .int (nI p0)), (5, .int (nI x))], [.int 0], M13)) rfl rfl rfl ?_
                  exact ps_ret rfl rfl (Or.inr (Or.inr ⟨I, R14, (fe_1 (by decide) (by omega)).trans (congrArg some (by omega)), Or.inr (((ct_ne hfd (by omega) (by omega)).trans (congrArg some (by rw [if_neg (by omega), if_neg (by omega), if_neg (by omega)]))).trans (congrArg some (by omega))), rfl, hR15, hEI, hER20⟩))
                · have c_188 : ¬ ((nI (tg f E (by2 f p0))) = 3) := of_decide_eq_false c_188
                  have n_188 : ¬ (tg f E (by2 f p0) = 3) := fun h9 => c_188 ((eq_nI (p := tg f E (by2 f p0)) (n := 3) (Nat.lt_trans (tg_lt _ _ _) (by decide)) (by decide)).mpr h9)
                  refine ps_st (S' := (193, [(8, .int 3), (0, .ref m0), (3, .int (nI p0)), (5, .int (nI x))], [.int 31], M)) rfl rfl rfl ?_
                  exact ps_ret rfl rfl (Or.inr (Or.inl ⟨I, R, (fe_1 (by decide) (by omega)).trans (congrArg some (by omega)), ⟨by omega, fun h9 => (by have h8 := ((ct_ne hfd (by omega) (by omega)).trans (congrArg some (by rw [if_neg (by omega), if_neg (by omega), if_neg (by omega)]))).symm.trans h9; have h7 := Option.some.inj h8; omega)⟩, rfl, hR, hEI, hER⟩))
              · have c_167 : ¬ (¬ (nI (l.getD 0 0)) = 91) := of_decide_eq_false c_167
                have n_167 : l.getD 0 0 = 91 := (eq_nI (p := l.getD 0 0) (n := 91) (by omega) (by decide)).mp (Decidable.not_not.mp c_167)
                refine ps_st (S' := (171, [(7, .int (nI (l.getD 0 0))), (0, .ref m0), (1, .int 0), (2, .int t), (3, .int (nI p0)), (4, .int (nI e)), (5, .int (nI x)), (6, .int (nI s3))], [.int (-1)], M)) rfl rfl rfl ?_
                refine ps_st (S' := (175, [(0, .ref m0), (3, .int (nI p0)), (5, .int (nI x))], [.int (-1)], M)) rfl rfl rfl ?_
                refine ps_st (S' := (177, [(8, .int (-1)), (0, .ref m0), (3, .int (nI p0)), (5, .int (nI x))], [], M)) rfl rfl rfl ?_
                refine ps_st (S' := (178, [(8, .int (-1)), (0, .ref m0), (3, .int (nI p0)), (5, .int (nI x))], [.ref m0], M)) rfl rfl rfl ?_
                refine ps_st (S' := (179, [(8, .int (-1)), (0, .ref m0), (3, .int (nI p0)), (5, .int (nI x))], [.ref m0, .ref m0], M)) rfl rfl rfl ?_
                refine ps_st (S' := (180, [(8, .int (-1)), (0, .ref m0), (3, .int (nI p0)), (5, .int (nI x))], [.int (nI p0), .ref m0, .ref m0], M)) rfl rfl rfl ?_
                refine pl_call (a := [.ref m0, .int (nI p0)]) (rest := [.ref m0]) rfl rfl rfl (rd_u2 (n := n) (f := f) (p := p0) hR hF (by omega)) (fun v21 M22 q23 => ?_)
                obtain ⟨rfl, rfl⟩ := q23
                show pl _ _ _ (183, [(8, .int (-1)), (0, .ref m0), (3, .int (nI p0)), (5, .int (nI x))], [.int (nI (by2 f p0)), .ref m0], M) _
                have hu_180 := by2_lt f p0
                refine pl_call (a := [.ref m0, .int (nI (by2 f p0))]) (rest := []) rfl rfl rfl (rd_tag (n := n) (f := f) (tx := tx) (cN := cN) (A := A) (N := N) (mj := mj) (E := E) (k := (by2 f p0)) hR hi51 hi52 hi53 hF hY hP (hEP) (hN) (hmj) (by2_lt _ _)) (fun v24 M25 q26 => ?_)
                obtain ⟨rfl, rfl⟩ := q26
                show pl _ _ _ (186, [(8, .int (-1)), (0, .ref m0), (3, .int (nI p0)), (5, .int (nI x))], [.int (nI (tg f E (by2 f p0)))], M) _
                have htg_183 := tg_lt f E (by2 f p0)
                refine ps_st (S' := (188, [(8, .int (-1)), (0, .ref m0), (3, .int (nI p0)), (5, .int (nI x))], [.int (-1), .int (nI (tg f E (by2 f p0)))], M)) rfl rfl rfl ?_
                refine ps_if2 (S1 := (194, [(8, .int (-1)), (0, .ref m0), (3, .int (nI p0)), (5, .int (nI x))], [], M)) (S2 := (191, [(8, .int (-1)), (0, .ref m0), (3, .int (nI p0)), (5, .int (nI x))], [], M)) rfl rfl rfl (fun c_188 => ?_) (fun c_188 => ?_)
                · exact absurd (of_decide_eq_true c_188) (fun h9 => m1_ne (Nat.lt_trans (tg_lt _ _ _) (by decide)) h9.symm)
                refine ps_st (S' := (193, [(8, .int (-1)), (0, .ref m0), (3, .int (nI p0)), (5, .int (nI x))], [.int 31], M)) rfl rfl rfl ?_
                exact ps_ret rfl rfl (Or.inr (Or.inl ⟨I, R, (fe_1 (by decide) (by omega)).trans (congrArg some (by omega)), ⟨by omega, fun h9 => (by have h8 := (ct_91 hfd (by omega)).symm.trans h9; cases h8)⟩, rfl, hR, hEI, hER⟩))
            · have c_134 : ¬ (¬ (nI (l.getD 0 0)) = 76) := of_decide_eq_false c_134
              have n_134 : l.getD 0 0 = 76 := (eq_nI (p := l.getD 0 0) (n := 76) (by omega) (by decide)).mp (Decidable.not_not.mp c_134)
              refine ps_st (S' := (138, [(7, .int (nI (l.getD 0 0))), (0, .ref m0), (1, .int 0), (2, .int t), (3, .int (nI p0)), (4, .int (nI e)), (5, .int (nI x)), (6, .int (nI s3))], [.ref m0], M)) rfl rfl rfl ?_
              refine ps_st (S' := (139, [(7, .int (nI (l.getD 0 0))), (0, .ref m0), (1, .int 0), (2, .int t), (3, .int (nI p0)), (4, .int (nI e)), (5, .int (nI x)), (6, .int (nI s3))], [.ref m0, .ref m0], M)) rfl rfl rfl ?_
              refine pr_ref (j := 29) (S' := (142, [(7, .int (nI (l.getD 0 0))), (0, .ref m0), (1, .int 0), (2, .int t), (3, .int (nI p0)), (4, .int (nI e)), (5, .int (nI x)), (6, .int (nI s3))], [.ref (q 29), .ref m0], M)) rfl hR rfl rfl ?_
              refine ps_st (S' := (144, [(7, .int (nI (l.getD 0 0))), (0, .ref m0), (1, .int 0), (2, .int t), (3, .int (nI p0)), (4, .int (nI e)), (5, .int (nI x)), (6, .int (nI s3))], [.int (nI x), .ref (q 29), .ref m0], M)) rfl rfl rfl ?_
              refine pr_ld (a := 29) (j := x) (y := (nI ds)) (S' := (145, [(7, .int (nI (l.getD 0 0))), (0, .ref m0), (1, .int 0), (2, .int t), (3, .int (nI p0)), (4, .int (nI e)), (5, .int (nI x)), (6, .int (nI s3))], [.int (nI ds), .ref m0], M)) rfl hR rfl (by omega) (fun _ => hds) rfl (fun i1_144 => ?_)
              refine ps_st (S' := (148, [(7, .int (nI (l.getD 0 0))), (0, .ref m0), (1, .int 0), (2, .int t), (3, .int (nI p0)), (4, .int (nI e)), (5, .int (nI x)), (6, .int (nI s3))], [.ref (g.2.1 28), .int (nI ds), .ref m0], M)) rfl rfl rfl ?_
              refine pl_call (a := [.ref m0, .int (nI ds), .ref (g.2.1 28)]) (rest := []) rfl rfl rfl (rd_is (tx := tx) (cN := cN) (A := A) (s := ds) (l := l) (lk := 28) hR hY (hdt) (⟨by decide, by decide⟩)) (fun v27 M28 q29 => ?_)
              obtain ⟨rfl, rfl⟩ := q29
              show pl _ _ _ (151, [(7, .int (nI (l.getD 0 0))), (0, .ref m0), (1, .int 0), (2, .int t), (3, .int (nI p0)), (4, .int (nI e)), (5, .int (nI x)), (6, .int (nI s3))], [.int (nI (eqN l (ltx 28)))], M) _
              refine ps_if (S1 := (159, [(7, .int (nI (l.getD 0 0))), (0, .ref m0), (1, .int 0), (2, .int t), (3, .int (nI p0)), (4, .int (nI e)), (5, .int (nI x)), (6, .int (nI s3))], [], M)) (S2 := (154, [(7, .int (nI (l.getD 0 0))), (0, .ref m0), (1, .int 0), (2, .int t), (3, .int (nI p0)), (4, .int (nI e)), (5, .int (nI x)), (6, .int (nI s3))], [], M)) rfl rfl rfl (fun c_151 => ?_) (fun c_151 => ?_)
              · have c_151 : (nI (eqN l (ltx 28))) = 0 := of_decide_eq_true c_151
                have n_151 : eqN l (ltx 28) = 0 := (eq_nI (p := eqN l (ltx 28)) (n := 0) (Nat.lt_trans (le1_eq _ _) (by decide)) (by decide)).mp c_151
                refine ps_st (S' := (160, [(7, .int (nI (l.getD 0 0))), (0, .ref m0), (1, .int 0), (2, .int t), (3, .int (nI p0)), (4, .int (nI e)), (5, .int (nI x)), (6, .int (nI s3))], [.int (-1)], M)) rfl rfl rfl ?_
                refine ps_st (S' := (175, [(0, .ref m0), (3, .int (nI p0)), (5, .int (nI x))], [.int (-1)], M)) rfl rfl rfl ?_
                refine ps_st (S' := (177, [(8, .int (-1)), (0, .ref m0), (3, .int (nI p0)), (5, .int (nI x))], [], M)) rfl rfl rfl ?_
                refine ps_st (S' := (178, [(8, .int (-1)), (0, .ref m0), (3, .int (nI p0)), (5, .int (nI x))], [.ref m0], M)) rfl rfl rfl ?_
                refine ps_st (S' := (179, [(8, .int (-1)), (0, .ref m0), (3, .int (nI p0)), (5, .int (nI x))], [.ref m0, .ref m0], M)) rfl rfl rfl ?_
                refine ps_st (S' := (180, [(8, .int (-1)), (0, .ref m0), (3, .int (nI p0)), (5, .int (nI x))], [.int (nI p0), .ref m0, .ref m0], M)) rfl rfl rfl ?_
                refine pl_call (a := [.ref m0, .int (nI p0)]) (rest := [.ref m0]) rfl rfl rfl (rd_u2 (n := n) (f := f) (p := p0) hR hF (by omega)) (fun v30 M31 q32 => ?_)
                obtain ⟨rfl, rfl⟩ := q32
                show pl _ _ _ (183, [(8, .int (-1)), (0, .ref m0), (3, .int (nI p0)), (5, .int (nI x))], [.int (nI (by2 f p0)), .ref m0], M) _
                have hu_180 := by2_lt f p0
                refine pl_call (a := [.ref m0, .int (nI (by2 f p0))]) (rest := []) rfl rfl rfl (rd_tag (n := n) (f := f) (tx := tx) (cN := cN) (A := A) (N := N) (mj := mj) (E := E) (k := (by2 f p0)) hR hi51 hi52 hi53 hF hY hP (hEP) (hN) (hmj) (by2_lt _ _)) (fun v33 M34 q35 => ?_)
                obtain ⟨rfl, rfl⟩ := q35
                show pl _ _ _ (186, [(8, .int (-1)), (0, .ref m0), (3, .int (nI p0)), (5, .int (nI x))], [.int (nI (tg f E (by2 f p0)))], M) _
                have htg_183 := tg_lt f E (by2 f p0)
                refine ps_st (S' := (188, [(8, .int (-1)), (0, .ref m0), (3, .int (nI p0)), (5, .int (nI x))], [.int (-1), .int (nI (tg f E (by2 f p0)))], M)) rfl rfl rfl ?_
                refine ps_if2 (S1 := (194, [(8, .int (-1)), (0, .ref m0), (3, .int (nI p0)), (5, .int (nI x))], [], M)) (S2 := (191, [(8, .int (-1)), (0, .ref m0), (3, .int (nI p0)), (5, .int (nI x))], [], M)) rfl rfl rfl (fun c_188 => ?_) (fun c_188 => ?_)
                · exact absurd (of_decide_eq_true c_188) (fun h9 => m1_ne (Nat.lt_trans (tg_lt _ _ _) (by decide)) h9.symm)
                refine ps_st (S' := (193, [(8, .int (-1)), (0, .ref m0), (3, .int (nI p0)), (5, .int (nI x))], [.int 31], M)) rfl rfl rfl ?_
                exact ps_ret rfl rfl (Or.inr (Or.inl ⟨I, R, (fe_1 (by decide) (by omega)).trans (congrArg some (by omega)), ⟨by omega, fun h9 => (by have h8 := ((ct_76 hfd (by omega)).trans (by rw [← lt_28, if_pos n_151])).symm.trans h9; cases h8)⟩, rfl, hR, hEI, hER⟩))
              · have c_151 : ¬ ((nI (eqN l (ltx 28))) = 0) := of_decide_eq_false c_151
                have n_151 : ¬ (eqN l (ltx 28) = 0) := fun h9 => c_151 ((eq_nI (p := eqN l (ltx 28)) (n := 0) (Nat.lt_trans (le1_eq _ _) (by decide)) (by decide)).mpr h9)
                refine ps_st (S' := (156, [(7, .int (nI (l.getD 0 0))), (0, .ref m0), (1, .int 0), (2, .int t), (3, .int (nI p0)), (4, .int (nI e)), (5, .int (nI x)), (6, .int (nI s3))], [.int 8], M)) rfl rfl rfl ?_
                refine ps_st (S' := (175, [(0, .ref m0), (3, .int (nI p0)), (5, .int (nI x))], [.int 8], M)) rfl rfl rfl ?_
                refine ps_st (S' := (177, [(8, .int 8), (0, .ref m0), (3, .int (nI p0)), (5, .int (nI x))], [], M)) rfl rfl rfl ?_
                refine ps_st (S' := (178, [(8, .int 8), (0, .ref m0), (3, .int (nI p0)), (5, .int (nI x))], [.ref m0], M)) rfl rfl rfl ?_
                refine ps_st (S' := (179, [(8, .int 8), (0, .ref m0), (3, .int (nI p0)), (5, .int (nI x))], [.ref m0, .ref m0], M)) rfl rfl rfl ?_
                refine ps_st (S' := (180, [(8, .int 8), (0, .ref m0), (3, .int (nI p0)), (5, .int (nI x))], [.int (nI p0), .ref m0, .ref m0], M)) rfl rfl rfl ?_
                refine pl_call (a := [.ref m0, .int (nI p0)]) (rest := [.ref m0]) rfl rfl rfl (rd_u2 (n := n) (f := f) (p := p0) hR hF (by omega)) (fun v36 M37 q38 => ?_)
                obtain ⟨rfl, rfl⟩ := q38
                show pl _ _ _ (183, [(8, .int 8), (0, .ref m0), (3, .int (nI p0)), (5, .int (nI x))], [.int (nI (by2 f p0)), .ref m0], M) _
                have hu_180 := by2_lt f p0
                refine pl_call (a := [.ref m0, .int (nI (by2 f p0))]) (rest := []) rfl rfl rfl (rd_tag (n := n) (f := f) (tx := tx) (cN := cN) (A := A) (N := N) (mj := mj) (E := E) (k := (by2 f p0)) hR hi51 hi52 hi53 hF hY hP (hEP) (hN) (hmj) (by2_lt _ _)) (fun v39 M40 q41 => ?_)
                obtain ⟨rfl, rfl⟩ := q41
                show pl _ _ _ (186, [(8, .int 8), (0, .ref m0), (3, .int (nI p0)), (5, .int (nI x))], [.int (nI (tg f E (by2 f p0)))], M) _
                have htg_183 := tg_lt f E (by2 f p0)
                refine ps_st (S' := (188, [(8, .int 8), (0, .ref m0), (3, .int (nI p0)), (5, .int (nI x))], [.int 8, .int (nI (tg f E (by2 f p0)))], M)) rfl rfl rfl ?_
                refine ps_if2 (S1 := (194, [(8, .int 8), (0, .ref m0), (3, .int (nI p0)), (5, .int (nI x))], [], M)) (S2 := (191, [(8, .int 8), (0, .ref m0), (3, .int (nI p0)), (5, .int (nI x))], [], M)) rfl rfl rfl (fun c_188 => ?_) (fun c_188 => ?_)
                · have c_188 : (nI (tg f E (by2 f p0))) = 8 := of_decide_eq_true c_188
                  have n_188 : tg f E (by2 f p0) = 8 := (eq_nI (p := tg f E (by2 f p0)) (n := 8) (Nat.lt_trans (tg_lt _ _ _) (by decide)) (by decide)).mp c_188
                  refine ps_st (S' := (195, [(8, .int 8), (0, .ref m0), (3, .int (nI p0)), (5, .int (nI x))], [.ref m0], M)) rfl rfl rfl ?_
                  refine pr_ref (j := 30) (S' := (198, [(8, .int 8), (0, .ref m0), (3, .int (nI p0)), (5, .int (nI x))], [.ref (q 30)], M)) rfl hR rfl rfl ?_
                  refine ps_st (S' := (200, [(8, .int 8), (0, .ref m0), (3, .int (nI p0)), (5, .int (nI x))], [.int (nI x), .ref (q 30)], M)) rfl rfl rfl ?_
                  refine ps_st (S' := (201, [(8, .int 8), (0, .ref m0), (3, .int (nI p0)), (5, .int (nI x))], [.ref m0, .int (nI x), .ref (q 30)], M)) rfl rfl rfl ?_
                  refine ps_st (S' := (202, [(8, .int 8), (0, .ref m0), (3, .int (nI p0)), (5, .int (nI x))], [.int (nI p0), .ref m0, .int (nI x), .ref (q 30)], M)) rfl rfl rfl ?_
                  refine pl_call (a := [.ref m0, .int (nI p0)]) (rest := [.int (nI x), .ref (q 30)]) rfl rfl rfl (rd_u2 (n := n) (f := f) (p := p0) hR hF (by omega)) (fun v42 M43 q44 => ?_)
                  obtain ⟨rfl, rfl⟩ := q44
                  show pl _ _ _ (205, [(8, .int 8), (0, .ref m0), (3, .int (nI p0)), (5, .int (nI x))], [.int (nI (by2 f p0)), .int (nI x), .ref (q 30)], M) _
                  have hu_202 := by2_lt f p0
                  refine pr_st (a := 30) (j := x) rfl hR rfl (by omega) (fun M45 R46 i1_205 hR47 hS48 => ?_)
                  have hF_49 := hF.mono (fun _ _ => rfl) (rRx hS48 (by decide))
                  have hY_50 := hY.mono (fun _ _ => rfl) (rRx hS48 (by decide))
                  have hP_51 := hP.mono (fun _ _ => rfl) (rRx hS48 (by decide))
                  have hER52 := hER.st hS48 (by decide)
                  show pl _ _ _ (206, [(8, .int 8), (0, .ref m0), (3, .int (nI p0)), (5, .int (nI x))], [], M45) _
                  refine ps_st (S' := (207, [(8, .int 8), (0, .ref m0), (3, .int (nI p0)), (5, .int (nI x))], [.int 0], M45)) rfl rfl rfl ?_
                  exact ps_ret rfl rfl (Or.inr (Or.inr ⟨I, R46, (fe_1 (by decide) (by omega)).trans (congrArg some (by omega)), Or.inr (((ct_76 hfd (by omega)).trans (by rw [← lt_28, if_neg n_151])).trans (congrArg some (by omega))), rfl, hR47, hEI, hER52⟩))
                · have c_188 : ¬ ((nI (tg f E (by2 f p0))) = 8) := of_decide_eq_false c_188
                  have n_188 : ¬ (tg f E (by2 f p0) = 8) := fun h9 => c_188 ((eq_nI (p := tg f E (by2 f p0)) (n := 8) (Nat.lt_trans (tg_lt _ _ _) (by decide)) (by decide)).mpr h9)
                  refine ps_st (S' := (193, [(8, .int 8), (0, .ref m0), (3, .int (nI p0)), (5, .int (nI x))], [.int 31], M)) rfl rfl rfl ?_
                  exact ps_ret rfl rfl (Or.inr (Or.inl ⟨I, R, (fe_1 (by decide) (by omega)).trans (congrArg some (by omega)), ⟨by omega, fun h9 => (by have h8 := ((ct_76 hfd (by omega)).trans (by rw [← lt_28, if_neg n_151])).symm.trans h9; have h7 := Option.some.inj h8; omega)⟩, rfl, hR, hEI, hER⟩))
          · have c_122 : ¬ (¬ (nI (l.getD 0 0)) = 68) := of_decide_eq_false c_122
            have n_122 : l.getD 0 0 = 68 := (eq_nI (p := l.getD 0 0) (n := 68) (by omega) (by decide)).mp (Decidable.not_not.mp c_122)
            refine ps_st (S' := (127, [(7, .int (nI (l.getD 0 0))), (0, .ref m0), (1, .int 0), (2, .int t), (3, .int (nI p0)), (4, .int (nI e)), (5, .int (nI x)), (6, .int (nI s3))], [.int 6], M)) rfl rfl rfl ?_
            refine ps_st (S' := (175, [(0, .ref m0), (3, .int (nI p0)), (5, .int (nI x))], [.int 6], M)) rfl rfl rfl ?_
            refine ps_st (S' := (177, [(8, .int 6), (0, .ref m0), (3, .int (nI p0)), (5, .int (nI x))], [], M)) rfl rfl rfl ?_
            refine ps_st (S' := (178, [(8, .int 6), (0, .ref m0), (3, .int (nI p0)), (5, .int (nI x))], [.ref m0], M)) rfl rfl rfl ?_
            refine ps_st (S' := (179, [(8, .int 6), (0, .ref m0), (3, .int (nI p0)), (5, .int (nI x))], [.ref m0, .ref m0], M)) rfl rfl rfl ?_
            refine ps_st (S' := (180, [(8, .int 6), (0, .ref m0), (3, .int (nI p0)), (5, .int (nI x))], [.int (nI p0), .ref m0, .ref m0], M)) rfl rfl rfl ?_
            refine pl_call (a := [.ref m0, .int (nI p0)]) (rest := [.ref m0]) rfl rfl rfl (rd_u2 (n := n) (f := f) (p := p0) hR hF (by omega)) (fun v53 M54 q55 => ?_)
            obtain ⟨rfl, rfl⟩ := q55
            show pl _ _ _ (183, [(8, .int 6), (0, .ref m0), (3, .int (nI p0)), (5, .int (nI x))], [.int (nI (by2 f p0)), .ref m0], M) _
            have hu_180 := by2_lt f p0
            refine pl_call (a := [.ref m0, .int (nI (by2 f p0))]) (rest := []) rfl rfl rfl (rd_tag (n := n) (f := f) (tx := tx) (cN := cN) (A := A) (N := N) (mj := mj) (E := E) (k := (by2 f p0)) hR hi51 hi52 hi53 hF hY hP (hEP) (hN) (hmj) (by2_lt _ _)) (fun v56 M57 q58 => ?_)
            obtain ⟨rfl, rfl⟩ := q58
            show pl _ _ _ (186, [(8, .int 6), (0, .ref m0), (3, .int (nI p0)), (5, .int (nI x))], [.int (nI (tg f E (by2 f p0)))], M) _
            have htg_183 := tg_lt f E (by2 f p0)
            refine ps_st (S' := (188, [(8, .int 6), (0, .ref m0), (3, .int (nI p0)), (5, .int (nI x))], [.int 6, .int (nI (tg f E (by2 f p0)))], M)) rfl rfl rfl ?_
            refine ps_if2 (S1 := (194, [(8, .int 6), (0, .ref m0), (3, .int (nI p0)), (5, .int (nI x))], [], M)) (S2 := (191, [(8, .int 6), (0, .ref m0), (3, .int (nI p0)), (5, .int (nI x))], [], M)) rfl rfl rfl (fun c_188 => ?_) (fun c_188 => ?_)
            · have c_188 : (nI (tg f E (by2 f p0))) = 6 := of_decide_eq_true c_188
              have n_188 : tg f E (by2 f p0) = 6 := (eq_nI (p := tg f E (by2 f p0)) (n := 6) (Nat.lt_trans (tg_lt _ _ _) (by decide)) (by decide)).mp c_188
              refine ps_st (S' := (195, [(8, .int 6), (0, .ref m0), (3, .int (nI p0)), (5, .int (nI x))], [.ref m0], M)) rfl rfl rfl ?_
              refine pr_ref (j := 30) (S' := (198, [(8, .int 6), (0, .ref m0), (3, .int (nI p0)), (5, .int (nI x))], [.ref (q 30)], M)) rfl hR rfl rfl ?_
              refine ps_st (S' := (200, [(8, .int 6), (0, .ref m0), (3, .int (nI p0)), (5, .int (nI x))], [.int (nI x), .ref (q 30)], M)) rfl rfl rfl ?_
              refine ps_st (S' := (201, [(8, .int 6), (0, .ref m0), (3, .int (nI p0)), (5, .int (nI x))], [.ref m0, .int (nI x), .ref (q 30)], M)) rfl rfl rfl ?_
              refine ps_st (S' := (202, [(8, .int 6), (0, .ref m0), (3, .int (nI p0)), (5, .int (nI x))], [.int (nI p0), .ref m0, .int (nI x), .ref (q 30)], M)) rfl rfl rfl ?_
              refine pl_call (a := [.ref m0, .int (nI p0)]) (rest := [.int (nI x), .ref (q 30)]) rfl rfl rfl (rd_u2 (n := n) (f := f) (p := p0) hR hF (by omega)) (fun v59 M60 q61 => ?_)
              obtain ⟨rfl, rfl⟩ := q61
              show pl _ _ _ (205, [(8, .int 6), (0, .ref m0), (3, .int (nI p0)), (5, .int (nI x))], [.int (nI (by2 f p0)), .int (nI x), .ref (q 30)], M) _
              have hu_202 := by2_lt f p0
              refine pr_st (a := 30) (j := x) rfl hR rfl (by omega) (fun M62 R63 i1_205 hR64 hS65 => ?_)
              have hF_66 := hF.mono (fun _ _ => rfl) (rRx hS65 (by decide))
              have hY_67 := hY.mono (fun _ _ => rfl) (rRx hS65 (by decide))
              have hP_68 := hP.mono (fun _ _ => rfl) (rRx hS65 (by decide))
              have hER69 := hER.st hS65 (by decide)
              show pl _ _ _ (206, [(8, .int 6), (0, .ref m0), (3, .int (nI p0)), (5, .int (nI x))], [], M62) _
              refine ps_st (S' := (207, [(8, .int 6), (0, .ref m0), (3, .int (nI p0)), (5, .int (nI x))], [.int 0], M62)) rfl rfl rfl ?_
              exact ps_ret rfl rfl (Or.inr (Or.inr ⟨I, R63, (fe_1 (by decide) (by omega)).trans (congrArg some (by omega)), Or.inr (((ct_ne hfd (by omega) (by omega)).trans (congrArg some (by rw [if_neg (by omega), if_neg (by omega), if_pos (by omega)]))).trans (congrArg some (by omega))), rfl, hR64, hEI, hER69⟩))
            · have c_188 : ¬ ((nI (tg f E (by2 f p0))) = 6) := of_decide_eq_false c_188
              have n_188 : ¬ (tg f E (by2 f p0) = 6) := fun h9 => c_188 ((eq_nI (p := tg f E (by2 f p0)) (n := 6) (Nat.lt_trans (tg_lt _ _ _) (by decide)) (by decide)).mpr h9)
              refine ps_st (S' := (193, [(8, .int 6), (0, .ref m0), (3, .int (nI p0)), (5, .int (nI x))], [.int 31], M)) rfl rfl rfl ?_
              exact ps_ret rfl rfl (Or.inr (Or.inl ⟨I, R, (fe_1 (by decide) (by omega)).trans (congrArg some (by omega)), ⟨by omega, fun h9 => (by have h8 := ((ct_ne hfd (by omega) (by omega)).trans (congrArg some (by rw [if_neg (by omega), if_neg (by omega), if_pos (by omega)]))).symm.trans h9; have h7 := Option.some.inj h8; omega)⟩, rfl, hR, hEI, hER⟩))
        · have c_111 : ¬ (¬ (nI (l.getD 0 0)) = 70) := of_decide_eq_false c_111
          have n_111 : l.getD 0 0 = 70 := (eq_nI (p := l.getD 0 0) (n := 70) (by omega) (by decide)).mp (Decidable.not_not.mp c_111)
          refine ps_st (S' := (115, [(7, .int (nI (l.getD 0 0))), (0, .ref m0), (1, .int 0), (2, .int t), (3, .int (nI p0)), (4, .int (nI e)), (5, .int (nI x)), (6, .int (nI s3))], [.int 4], M)) rfl rfl rfl ?_
          refine ps_st (S' := (175, [(0, .ref m0), (3, .int (nI p0)), (5, .int (nI x))], [.int 4], M)) rfl rfl rfl ?_
          refine ps_st (S' := (177, [(8, .int 4), (0, .ref m0), (3, .int (nI p0)), (5, .int (nI x))], [], M)) rfl rfl rfl ?_
          refine ps_st (S' := (178, [(8, .int 4), (0, .ref m0), (3, .int (nI p0)), (5, .int (nI x))], [.ref m0], M)) rfl rfl rfl ?_
          refine ps_st (S' := (179, [(8, .int 4), (0, .ref m0), (3, .int (nI p0)), (5, .int (nI x))], [.ref m0, .ref m0], M)) rfl rfl rfl ?_
          refine ps_st (S' := (180, [(8, .int 4), (0, .ref m0), (3, .int (nI p0)), (5, .int (nI x))], [.int (nI p0), .ref m0, .ref m0], M)) rfl rfl rfl ?_
          refine pl_call (a := [.ref m0, .int (nI p0)]) (rest := [.ref m0]) rfl rfl rfl (rd_u2 (n := n) (f := f) (p := p0) hR hF (by omega)) (fun v70 M71 q72 => ?_)
          obtain ⟨rfl, rfl⟩ := q72
          show pl _ _ _ (183, [(8, .int 4), (0, .ref m0), (3, .int (nI p0)), (5, .int (nI x))], [.int (nI (by2 f p0)), .ref m0], M) _
          have hu_180 := by2_lt f p0
          refine pl_call (a := [.ref m0, .int (nI (by2 f p0))]) (rest := []) rfl rfl rfl (rd_tag (n := n) (f := f) (tx := tx) (cN := cN) (A := A) (N := N) (mj := mj) (E := E) (k := (by2 f p0)) hR hi51 hi52 hi53 hF hY hP (hEP) (hN) (hmj) (by2_lt _ _)) (fun v73 M74 q75 => ?_)
          obtain ⟨rfl, rfl⟩ := q75
          show pl _ _ _ (186, [(8, .int 4), (0, .ref m0), (3, .int (nI p0)), (5, .int (nI x))], [.int (nI (tg f E (by2 f p0)))], M) _
          have htg_183 := tg_lt f E (by2 f p0)
          refine ps_st (S' := (188, [(8, .int 4), (0, .ref m0), (3, .int (nI p0)), (5, .int (nI x))], [.int 4, .int (nI (tg f E (by2 f p0)))], M)) rfl rfl rfl ?_
          refine ps_if2 (S1 := (194, [(8, .int 4), (0, .ref m0), (3, .int (nI p0)), (5, .int (nI x))], [], M)) (S2 := (191, [(8, .int 4), (0, .ref m0), (3, .int (nI p0)), (5, .int (nI x))], [], M)) rfl rfl rfl (fun c_188 => ?_) (fun c_188 => ?_)
          · have c_188 : (nI (tg f E (by2 f p0))) = 4 := of_decide_eq_true c_188
            have n_188 : tg f E (by2 f p0) = 4 := (eq_nI (p := tg f E (by2 f p0)) (n := 4) (Nat.lt_trans (tg_lt _ _ _) (by decide)) (by decide)).mp c_188
            refine ps_st (S' := (195, [(8, .int 4), (0, .ref m0), (3, .int (nI p0)), (5, .int (nI x))], [.ref m0], M)) rfl rfl rfl ?_
            refine pr_ref (j := 30) (S' := (198, [(8, .int 4), (0, .ref m0), (3, .int (nI p0)), (5, .int (nI x))], [.ref (q 30)], M)) rfl hR rfl rfl ?_
            refine ps_st (S' := (200, [(8, .int 4), (0, .ref m0), (3, .int (nI p0)), (5, .int (nI x))], [.int (nI x), .ref (q 30)], M)) rfl rfl rfl ?_
            refine ps_st (S' := (201, [(8, .int 4), (0, .ref m0), (3, .int (nI p0)), (5, .int (nI x))], [.ref m0, .int (nI x), .ref (q 30)], M)) rfl rfl rfl ?_
            refine ps_st (S' := (202, [(8, .int 4), (0, .ref m0), (3, .int (nI p0)), (5, .int (nI x))], [.int (nI p0), .ref m0, .int (nI x), .ref (q 30)], M)) rfl rfl rfl ?_
            refine pl_call (a := [.ref m0, .int (nI p0)]) (rest := [.int (nI x), .ref (q 30)]) rfl rfl rfl (rd_u2 (n := n) (f := f) (p := p0) hR hF (by omega)) (fun v76 M77 q78 => ?_)
            obtain ⟨rfl, rfl⟩ := q78
            show pl _ _ _ (205, [(8, .int 4), (0, .ref m0), (3, .int (nI p0)), (5, .int (nI x))], [.int (nI (by2 f p0)), .int (nI x), .ref (q 30)], M) _
            have hu_202 := by2_lt f p0
            refine pr_st (a := 30) (j := x) rfl hR rfl (by omega) (fun M79 R80 i1_205 hR81 hS82 => ?_)
            have hF_83 := hF.mono (fun _ _ => rfl) (rRx hS82 (by decide))
            have hY_84 := hY.mono (fun _ _ => rfl) (rRx hS82 (by decide))
            have hP_85 := hP.mono (fun _ _ => rfl) (rRx hS82 (by decide))
            have hER86 := hER.st hS82 (by decide)
            show pl _ _ _ (206, [(8, .int 4), (0, .ref m0), (3, .int (nI p0)), (5, .int (nI x))], [], M79) _
            refine ps_st (S' := (207, [(8, .int 4), (0, .ref m0), (3, .int (nI p0)), (5, .int (nI x))], [.int 0], M79)) rfl rfl rfl ?_
            exact ps_ret rfl rfl (Or.inr (Or.inr ⟨I, R80, (fe_1 (by decide) (by omega)).trans (congrArg some (by omega)), Or.inr (((ct_ne hfd (by omega) (by omega)).trans (congrArg some (by rw [if_pos (by omega)]))).trans (congrArg some (by omega))), rfl, hR81, hEI, hER86⟩))
          · have c_188 : ¬ ((nI (tg f E (by2 f p0))) = 4) := of_decide_eq_false c_188
            have n_188 : ¬ (tg f E (by2 f p0) = 4) := fun h9 => c_188 ((eq_nI (p := tg f E (by2 f p0)) (n := 4) (Nat.lt_trans (tg_lt _ _ _) (by decide)) (by decide)).mpr h9)
            refine ps_st (S' := (193, [(8, .int 4), (0, .ref m0), (3, .int (nI p0)), (5, .int (nI x))], [.int 31], M)) rfl rfl rfl ?_
            exact ps_ret rfl rfl (Or.inr (Or.inl ⟨I, R, (fe_1 (by decide) (by omega)).trans (congrArg some (by omega)), ⟨by omega, fun h9 => (by have h8 := ((ct_ne hfd (by omega) (by omega)).trans (congrArg some (by rw [if_pos (by omega)]))).symm.trans h9; have h7 := Option.some.inj h8; omega)⟩, rfl, hR, hEI, hER⟩))
      · have c_100 : ¬ (¬ (nI (l.getD 0 0)) = 74) := of_decide_eq_false c_100
        have n_100 : l.getD 0 0 = 74 := (eq_nI (p := l.getD 0 0) (n := 74) (by omega) (by decide)).mp (Decidable.not_not.mp c_100)
        refine ps_st (S' := (104, [(7, .int (nI (l.getD 0 0))), (0, .ref m0), (1, .int 0), (2, .int t), (3, .int (nI p0)), (4, .int (nI e)), (5, .int (nI x)), (6, .int (nI s3))], [.int 5], M)) rfl rfl rfl ?_
        refine ps_st (S' := (175, [(0, .ref m0), (3, .int (nI p0)), (5, .int (nI x))], [.int 5], M)) rfl rfl rfl ?_
        refine ps_st (S' := (177, [(8, .int 5), (0, .ref m0), (3, .int (nI p0)), (5, .int (nI x))], [], M)) rfl rfl rfl ?_
        refine ps_st (S' := (178, [(8, .int 5), (0, .ref m0), (3, .int (nI p0)), (5, .int (nI x))], [.ref m0], M)) rfl rfl rfl ?_
        refine ps_st (S' := (179, [(8, .int 5), (0, .ref m0), (3, .int (nI p0)), (5, .int (nI x))], [.ref m0, .ref m0], M)) rfl rfl rfl ?_
        refine ps_st (S' := (180, [(8, .int 5), (0, .ref m0), (3, .int (nI p0)), (5, .int (nI x))], [.int (nI p0), .ref m0, .ref m0], M)) rfl rfl rfl ?_
        refine pl_call (a := [.ref m0, .int (nI p0)]) (rest := [.ref m0]) rfl rfl rfl (rd_u2 (n := n) (f := f) (p := p0) hR hF (by omega)) (fun v87 M88 q89 => ?_)
        obtain ⟨rfl, rfl⟩ := q89
        show pl _ _ _ (183, [(8, .int 5), (0, .ref m0), (3, .int (nI p0)), (5, .int (nI x))], [.int (nI (by2 f p0)), .ref m0], M) _
        have hu_180 := by2_lt f p0
        refine pl_call (a := [.ref m0, .int (nI (by2 f p0))]) (rest := []) rfl rfl rfl (rd_tag (n := n) (f := f) (tx := tx) (cN := cN) (A := A) (N := N) (mj := mj) (E := E) (k := (by2 f p0)) hR hi51 hi52 hi53 hF hY hP (hEP) (hN) (hmj) (by2_lt _ _)) (fun v90 M91 q92 => ?_)
        obtain ⟨rfl, rfl⟩ := q92
        show pl _ _ _ (186, [(8, .int 5), (0, .ref m0), (3, .int (nI p0)), (5, .int (nI x))], [.int (nI (tg f E (by2 f p0)))], M) _
        have htg_183 := tg_lt f E (by2 f p0)
        refine ps_st (S' := (188, [(8, .int 5), (0, .ref m0), (3, .int (nI p0)), (5, .int (nI x))], [.int 5, .int (nI (tg f E (by2 f p0)))], M)) rfl rfl rfl ?_
        refine ps_if2 (S1 := (194, [(8, .int 5), (0, .ref m0), (3, .int (nI p0)), (5, .int (nI x))], [], M)) (S2 := (191, [(8, .int 5), (0, .ref m0), (3, .int (nI p0)), (5, .int (nI x))], [], M)) rfl rfl rfl (fun c_188 => ?_) (fun c_188 => ?_)
        · have c_188 : (nI (tg f E (by2 f p0))) = 5 := of_decide_eq_true c_188
          have n_188 : tg f E (by2 f p0) = 5 := (eq_nI (p := tg f E (by2 f p0)) (n := 5) (Nat.lt_trans (tg_lt _ _ _) (by decide)) (by decide)).mp c_188
          refine ps_st (S' := (195, [(8, .int 5), (0, .ref m0), (3, .int (nI p0)), (5, .int (nI x))], [.ref m0], M)) rfl rfl rfl ?_
          refine pr_ref (j := 30) (S' := (198, [(8, .int 5), (0, .ref m0), (3, .int (nI p0)), (5, .int (nI x))], [.ref (q 30)], M)) rfl hR rfl rfl ?_
          refine ps_st (S' := (200, [(8, .int 5), (0, .ref m0), (3, .int (nI p0)), (5, .int (nI x))], [.int (nI x), .ref (q 30)], M)) rfl rfl rfl ?_
          refine ps_st (S' := (201, [(8, .int 5), (0, .ref m0), (3, .int (nI p0)), (5, .int (nI x))], [.ref m0, .int (nI x), .ref (q 30)], M)) rfl rfl rfl ?_
          refine ps_st (S' := (202, [(8, .int 5), (0, .ref m0), (3, .int (nI p0)), (5, .int (nI x))], [.int (nI p0), .ref m0, .int (nI x), .ref (q 30)], M)) rfl rfl rfl ?_
          refine pl_call (a := [.ref m0, .int (nI p0)]) (rest := [.int (nI x), .ref (q 30)]) rfl rfl rfl (rd_u2 (n := n) (f := f) (p := p0) hR hF (by omega)) (fun v93 M94 q95 => ?_)
          obtain ⟨rfl, rfl⟩ := q95
          show pl _ _ _ (205, [(8, .int 5), (0, .ref m0), (3, .int (nI p0)), (5, .int (nI x))], [.int (nI (by2 f p0)), .int (nI x), .ref (q 30)], M) _
          have hu_202 := by2_lt f p0
          refine pr_st (a := 30) (j := x) rfl hR rfl (by omega) (fun M96 R97 i1_205 hR98 hS99 => ?_)
          have hF_100 := hF.mono (fun _ _ => rfl) (rRx hS99 (by decide))
          have hY_101 := hY.mono (fun _ _ => rfl) (rRx hS99 (by decide))
          have hP_102 := hP.mono (fun _ _ => rfl) (rRx hS99 (by decide))
          have hER103 := hER.st hS99 (by decide)
          show pl _ _ _ (206, [(8, .int 5), (0, .ref m0), (3, .int (nI p0)), (5, .int (nI x))], [], M96) _
          refine ps_st (S' := (207, [(8, .int 5), (0, .ref m0), (3, .int (nI p0)), (5, .int (nI x))], [.int 0], M96)) rfl rfl rfl ?_
          exact ps_ret rfl rfl (Or.inr (Or.inr ⟨I, R97, (fe_1 (by decide) (by omega)).trans (congrArg some (by omega)), Or.inr (((ct_ne hfd (by omega) (by omega)).trans (congrArg some (by rw [if_neg (by omega), if_pos (by omega)]))).trans (congrArg some (by omega))), rfl, hR98, hEI, hER103⟩))
        · have c_188 : ¬ ((nI (tg f E (by2 f p0))) = 5) := of_decide_eq_false c_188
          have n_188 : ¬ (tg f E (by2 f p0) = 5) := fun h9 => c_188 ((eq_nI (p := tg f E (by2 f p0)) (n := 5) (Nat.lt_trans (tg_lt _ _ _) (by decide)) (by decide)).mpr h9)
          refine ps_st (S' := (193, [(8, .int 5), (0, .ref m0), (3, .int (nI p0)), (5, .int (nI x))], [.int 31], M)) rfl rfl rfl ?_
          exact ps_ret rfl rfl (Or.inr (Or.inl ⟨I, R, (fe_1 (by decide) (by omega)).trans (congrArg some (by omega)), ⟨by omega, fun h9 => (by have h8 := ((ct_ne hfd (by omega) (by omega)).trans (congrArg some (by rw [if_neg (by omega), if_pos (by omega)]))).symm.trans h9; have h7 := Option.some.inj h8; omega)⟩, rfl, hR, hEI, hER⟩))
    · have c_77 : ¬ (¬ (nI (aN fl 8)) = 0) := of_decide_eq_false c_77
      have n_77 : aN fl 8 = 0 := (eq_nI (p := aN fl 8) (n := 0) (Nat.lt_of_le_of_lt (an_le _ _) (by decide)) (by decide)).mp (Decidable.not_not.mp c_77)
      refine ps_st (S' := (81, [(0, .ref m0), (1, .int 0), (2, .int t), (3, .int (nI p0)), (4, .int (nI e)), (5, .int (nI x)), (6, .int (nI s3))], [.int 0], M)) rfl rfl rfl ?_
      exact ps_ret rfl rfl (Or.inr (Or.inr ⟨I, R, (fe_1 (by decide) (by omega)).trans (congrArg some (by omega)), Or.inl (by omega), rfl, hR, hEI, hER⟩))
  · have c_61 : ¬ ((nI (e - p0)) = 2) := of_decide_eq_false c_61
    have n_61 : ¬ (e - p0 = 2) := fun h9 => c_61 ((eq_nI (p := e - p0) (n := 2) (by omega) (by decide)).mpr h9)
    refine ps_st (S' := (66, [(0, .ref m0), (1, .int 0), (2, .int t), (3, .int (nI p0)), (4, .int (nI e)), (5, .int (nI x)), (6, .int (nI s3))], [.int 30], M)) rfl rfl rfl ?_
    exact ps_ret rfl rfl (Or.inl ⟨I, R, (fun h9 => (by have h7 := s_fe_in h9; have h8 := Option.some.inj ((fe_1 (by decide) (by omega)).symm.trans h9); omega)), rfl, hR, hEI, hER⟩)
