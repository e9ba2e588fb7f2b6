/-! a bootstrap's parts, as both sides tell them (my own text) -/
section BSA
variable {f : Nat → Int32} {n : Nat} {E : List (Nat × Nat)}
/-- where the bootstrap number i is -/
def bsP (f : Nat → Int32) : Nat → Nat → Nat
  | 0, p => p
  | i + 1, p => bsP f i (p + 4 + 2 * by2 f (p + 2))
theorem bsP_st {c i p : Nat} (h : i < c) : bsP f (c - i) p = bsP f (c - (i + 1)) (p + 4 + 2 * by2 f (p + 2)) := by
  rw [show c - i = (c - (i + 1)) + 1 by omega]
  rfl
def bsV (f : Nat → Int32) (p u : Nat) : Int32 := if u = 0 then nI (by2 f p) else nI (by2 f (p + 2 + 2 * u))
def bsI (f : Nat → Int32) (bc bp : Nat) (i t : Int32) : Int32 := if i < 0 ∨ nI bc ≤ i then -1 else if t < 0 ∨ nI (by2 f (bsP f i.toNatClampNeg bp + 2)) < t then -1 else bsV f (bsP f i.toNatClampNeg bp) t.toNatClampNeg
/-- what is kept tells it -/
def bsK (ko : Option (Nat × (Nat → Int32))) (i t : Int32) : Int32 := match ko with
  | none => -1
  | some r => match s_whole r.2 r.1 with
    | .inl _ => -1
    | .inr w => match clS r.2 r.1 w.1 (by2 r.2 w.2.1) (by2 r.2 6) (by2 r.2 w.2.2.2.2) (w.2.2.2.2 + 2) 0 0 with
      | .inl _ => -1
      | .inr bc => bsI r.2 bc (clU r.2 r.1 w.1 (by2 r.2 6) (by2 r.2 w.2.2.2.2) (w.2.2.2.2 + 2) (0, 0, 0, 0, 0, -1)).2.1 i t
theorem bsK_is {r : Nat × (Nat → Int32)} {i t : Int32} {p1 pF pM pA bc : Nat} {K : KT} (h : s_whole r.2 r.1 = .inr (E, p1, pF, pM, pA)) (hB : clS r.2 r.1 E (by2 r.2 p1) (by2 r.2 6) (by2 r.2 pA) (pA + 2) 0 0 = .inr bc) (hU : clU r.2 r.1 E (by2 r.2 6) (by2 r.2 pA) (pA + 2) (0, 0, 0, 0, 0, -1) = K) : bsK (some r) i t = bsI r.2 bc K.2.1 i t := by
  show (match s_whole r.2 r.1 with | .inl _ => (-1 : Int32) | .inr w => match clS r.2 r.1 w.1 (by2 r.2 w.2.1) (by2 r.2 6) (by2 r.2 w.2.2.2.2) (w.2.2.2.2 + 2) 0 0 with | .inl _ => (-1 : Int32) | .inr bc => bsI r.2 bc (clU r.2 r.1 w.1 (by2 r.2 6) (by2 r.2 w.2.2.2.2) (w.2.2.2.2 + 2) (0, 0, 0, 0, 0, -1)).2.1 i t) = _
  rw [h]
  dsimp only
  rw [hB]
  dsimp only
  rw [hU]
/-- bootstraps lie well in the file -/
theorem cl_boot {x mj : Nat} : ∀ {c p s b b' e0 : Nat} {K : KT}, s_atts f n c p = .inr e0 → (b = 0 ∨ (8 ≤ K.2.1 ∧ ∃ e, e ≤ n ∧ s_bsE f e b K.2.1 = some e)) → clS f n E x mj c p s b = .inr b' → (b' = 0 ∨ (8 ≤ (clU f n E mj c p K).2.1 ∧ ∃ e, e ≤ n ∧ s_bsE f e b' (clU f n E mj c p K).2.1 = some e)) := by
  intro c
  induction c with
  | zero => intro p s b b' e0 K _ hb h; cases h; exact hb
  | succ c ih =>
    intro p s b b' e0 K ha hb h
    unfold s_atts at ha
    split at ha
    · cases ha
    · split at ha
      · cases ha
      · split at ha
        · cases ha
        · rename_i hn3
          unfold clS at h
          split at h
          · cases h
          · split at h
            · cases h
            · rename_i hfe
              split at h
              · cases h
              · cases h
              · refine ih (K := stU f (ckN f n E mj (by2 f p)) p K) ha ?_ h
                by_cases hk : ckN f n E mj (by2 f p) = 6
                · refine Or.inr ⟨by rw [show (stU f (ckN f n E mj (by2 f p)) p K).2.1 = p + 8 from if_pos hk]; omega, p + 6 + by4 f (p + 2), by omega, ?_⟩
                  have h1 : s_fe f (ckN f n E mj (by2 f p)) (p + 6) (p + 6 + by4 f (p + 2)) = some (p + 6 + by4 f (p + 2)) := Decidable.byContradiction (fun q => hfe ⟨by omega, q⟩)
                  rw [if_pos hk, show (stU f (ckN f n E mj (by2 f p)) p K).2.1 = p + 8 from if_pos hk]
                  exact (s_fe_in h1).2.2.2.2.1 hk
                · rw [if_neg hk, show (stU f (ckN f n E mj (by2 f p)) p K).2.1 = K.2.1 from if_neg hk]
                  exact hb
theorem cl_bt {x mj pA bc : Nat} {K : KT} (ha : s_attributes f n pA = .inr n) (hB : clS f n E x mj (by2 f pA) (pA + 2) 0 0 = .inr bc) (hU : clU f n E mj (by2 f pA) (pA + 2) (0, 0, 0, 0, 0, -1) = K) : bc = 0 ∨ (8 ≤ K.2.1 ∧ ∃ e, e ≤ n ∧ s_bsE f e bc K.2.1 = some e) := by
  rw [← hU]
  unfold s_attributes at ha
  split at ha
  · cases ha
  · exact cl_boot ha (Or.inl rfl) hB
end BSA
set_option maxHeartbeats 1000000 in
theorem dk_bsN {g : xe_G} {M : mi_H} {f : Nat → Int32} {n q c b da fr mr bc bp : Nat} {u2 u3 u4 u5 x8 x9 x10 x13 x14 x15 x16 : Int32} {i t : Int32} (h_c : M.1 c = some (ob 3 [.ref b, .ref q, .int u2, .int u3, .int u4, .int u5, .ref fr, .ref mr, .int x8, .int x9, .int x10, .int (nI bc), .int (nI bp), .int x13, .int x14, .int x15, .int x16])) (hi : i < 0 ∨ nI bc ≤ i) : pt (mT g) 70 [.ref c, .int i, .int t] M (fun v M' => (v = some (.int (-1)) ∧ M = M')) := by
  refine pt_in (b := mb_70 g) rfl (fun kf => ?_)
  show pl (mT g) kf (mb_70 g).2 (0, [(0, .ref c), (1, .int i), (2, .int t)], [], M) _
  refine ps_st (S' := (1, [(0, .ref c), (1, .int i), (2, .int t)], [.int i], M)) rfl rfl rfl ?_
  refine ps_if (S1 := (12, [], [], M)) (S2 := (4, [(0, .ref c), (1, .int i), (2, .int t)], [], M)) rfl rfl rfl (fun c_1 => ?_) (fun c_1 => ?_)
  · have c_1 : i < 0 := of_decide_eq_true c_1
    refine ps_st (S' := (13, [], [.int (-1)], M)) rfl rfl rfl ?_
    exact ps_ret rfl rfl (⟨rfl, rfl⟩)
  · have c_1 : ¬ (i < 0) := of_decide_eq_false c_1
    refine ps_st (S' := (5, [(0, .ref c), (1, .int i), (2, .int t)], [.int i], M)) rfl rfl rfl ?_
    refine ps_st (S' := (6, [(0, .ref c), (1, .int i), (2, .int t)], [.ref c, .int i], M)) rfl rfl rfl ?_
    refine ps_get (S' := (9, [(0, .ref c), (1, .int i), (2, .int t)], [.int (nI bc), .int i], M)) rfl h_c rfl rfl ?_
    refine ps_if2 (S1 := (14, [(0, .ref c), (1, .int i), (2, .int t)], [], M)) (S2 := (12, [], [], M)) rfl rfl rfl (fun c_9 => ?_) (fun c_9 => ?_)
    · exact absurd (of_decide_eq_true c_9) (Int32.not_lt.mpr (hi.resolve_left c_1))
    refine ps_st (S' := (13, [], [.int (-1)], M)) rfl rfl rfl ?_
    exact ps_ret rfl rfl (⟨rfl, rfl⟩)
set_option maxHeartbeats 1000000 in
theorem dk_bsB {g : xe_G} {M : mi_H} {f : Nat → Int32} {n q c b da fr mr bc bp : Nat} {u2 u3 u4 u5 x8 x9 x10 x13 x14 x15 x16 : Int32} {j e : Nat} {t : Int32} (h_c : M.1 c = some (ob 3 [.ref b, .ref q, .int u2, .int u3, .int u4, .int u5, .ref fr, .ref mr, .int x8, .int x9, .int x10, .int (nI bc), .int (nI bp), .int x13, .int x14, .int x15, .int x16])) (h_b : M.1 b = some (ob 1 [.ref da])) (h_da : M.1 da = some (ar .byte n f)) (hn : n ≤ 65540) (hbc : bc < 65536) (hj : j < bc) (he : e ≤ n) (hbs : s_bsE f e bc bp = some e) (hb9 : t < 0 ∨ nI (by2 f (bsP f j bp + 2)) < t) : pt (mT g) 70 [.ref c, .int (nI j), .int t] M (fun v M' => (v = some (.int (-1)) ∧ M = M')) := by
  refine pt_in (b := mb_70 g) rfl (fun kf => ?_)
  show pl (mT g) kf (mb_70 g).2 (0, [(0, .ref c), (1, .int (nI j)), (2, .int t)], [], M) _
  have hin8 := s_bsE_in (c := bc) (i := 0) (p := bp) hbs (by omega)
  have LL : ∀ (kf : Nat), (∀ (a p : Nat), (a ≤ j) → (s_bsE f e (bc - a) p = some e) → (bsP f (j - a) p = bsP f j bp) →  pl (mT g) kf (mb_70 g).2 (22, [(0, .ref c), (1, .int (nI j)), (2, .int t), (3, .int (nI p)), (4, .int (nI a))], [], M) (fun v M' => (v = some (.int (-1)) ∧ M = M'))) := by
    intro kf
    induction kf with
    | zero => exact (by intros; exact pl_0)
    | succ kf ih =>
      intro a p ha hf hp
      have hin9 := s_bsE_in (i := a) (p := p) hf (by omega)
      refine ps_st1 (S' := (24, [(0, .ref c), (1, .int (nI j)), (2, .int t), (3, .int (nI p)), (4, .int (nI a))], [.int (nI a)], M)) rfl rfl rfl ?_
      refine ps_st (S' := (25, [(0, .ref c), (1, .int (nI j)), (2, .int t), (3, .int (nI p)), (4, .int (nI a))], [.int (nI j), .int (nI a)], M)) rfl rfl rfl ?_
      refine ps_if2 (S1 := (51, [(0, .ref c), (1, .int (nI j)), (2, .int t), (3, .int (nI p)), (4, .int (nI a))], [], M)) (S2 := (28, [(0, .ref c), (1, .int (nI j)), (2, .int t), (3, .int (nI p)), (4, .int (nI a))], [], M)) rfl rfl rfl (fun c_25 => ?_) (fun c_25 => ?_)
      · have c_25 : (nI j) ≤ (nI a) := of_decide_eq_true c_25
        have n_25 : j ≤ a := (le_nI (p := j) (n := a) (by omega) (by omega)).mp c_25
        have eP : p = bsP f j bp := by rw [← hp, show j - a = 0 by omega]; rfl
        rw [← eP] at hb9
        refine ps_st (S' := (52, [(0, .ref c), (1, .int (nI j)), (2, .int t), (3, .int (nI p)), (4, .int (nI a))], [.int t], M)) rfl rfl rfl ?_
        refine ps_if (S1 := (69, [], [], M)) (S2 := (55, [(0, .ref c), (1, .int (nI j)), (2, .int t), (3, .int (nI p)), (4, .int (nI a))], [], M)) rfl rfl rfl (fun c_52 => ?_) (fun c_52 => ?_)
        · have c_52 : t < 0 := of_decide_eq_true c_52
          refine ps_st (S' := (70, [], [.int (-1)], M)) rfl rfl rfl ?_
          exact ps_ret rfl rfl (⟨rfl, rfl⟩)
        · have c_52 : ¬ (t < 0) := of_decide_eq_false c_52
          refine ps_st (S' := (56, [(0, .ref c), (1, .int (nI j)), (2, .int t), (3, .int (nI p)), (4, .int (nI a))], [.int t], M)) rfl rfl rfl ?_
          refine ps_st (S' := (57, [(0, .ref c), (1, .int (nI j)), (2, .int t), (3, .int (nI p)), (4, .int (nI a))], [.ref c, .int t], M)) rfl rfl rfl ?_
          refine ps_get (S' := (60, [(0, .ref c), (1, .int (nI j)), (2, .int t), (3, .int (nI p)), (4, .int (nI a))], [.ref b, .int t], M)) rfl h_c rfl rfl ?_
          refine ps_st (S' := (61, [(0, .ref c), (1, .int (nI j)), (2, .int t), (3, .int (nI p)), (4, .int (nI a))], [.int (nI p), .ref b, .int t], M)) rfl rfl rfl ?_
          refine ps_st (S' := (62, [(0, .ref c), (1, .int (nI j)), (2, .int t), (3, .int (nI p)), (4, .int (nI a))], [.int 2, .int (nI p), .ref b, .int t], M)) rfl rfl rfl ?_
          refine ps_st (S' := (63, [(0, .ref c), (1, .int (nI j)), (2, .int t), (3, .int (nI p)), (4, .int (nI a))], [.int ((nI p) + 2), .ref b, .int t], M)) rfl rfl rfl ?_
          rw [nI_add1 (p := p) (k := 2) (x := 2) rfl (by omega)]
          show pl _ _ _ (_, [(0, .ref c), (1, .int (nI j)), (2, .int t), (3, .int (nI p)), (4, .int (nI a))], [.int (nI (p + 2)), .ref b, .int t], M) _
          refine pl_call (a := [.ref b, .int (nI (p + 2))]) (rest := [.int t]) rfl rfl rfl (dk_u2 (f := f) (n := n) (b := b) (da := da) (p := (p + 2)) h_b h_da (hn) (by omega)) (fun v1 M2 q3 => ?_)
          obtain ⟨rfl, rfl⟩ := q3
          show pl _ _ _ (66, [(0, .ref c), (1, .int (nI j)), (2, .int t), (3, .int (nI p)), (4, .int (nI a))], [.int (nI (by2 f (p + 2))), .int t], M) _
          have hu_63 := by2_lt f (p + 2)
          refine ps_if2 (S1 := (71, [(0, .ref c), (1, .int (nI j)), (2, .int t), (3, .int (nI p)), (4, .int (nI a))], [], M)) (S2 := (69, [], [], M)) rfl rfl rfl (fun c_66 => ?_) (fun c_66 => ?_)
          · exact absurd (of_decide_eq_true c_66) (Int32.not_le.mpr (hb9.resolve_left c_52))
          refine ps_st (S' := (70, [], [.int (-1)], M)) rfl rfl rfl ?_
          exact ps_ret rfl rfl (⟨rfl, rfl⟩)
      · have c_25 : ¬ ((nI j) ≤ (nI a)) := of_decide_eq_false c_25
        have n_25 : ¬ (j ≤ a) := fun h9 => c_25 ((le_nI (p := j) (n := a) (by omega) (by omega)).mpr h9)
        refine ps_st (S' := (29, [(0, .ref c), (1, .int (nI j)), (2, .int t), (3, .int (nI p)), (4, .int (nI a))], [.int (nI p)], M)) rfl rfl rfl ?_
        refine ps_st (S' := (30, [(0, .ref c), (1, .int (nI j)), (2, .int t), (3, .int (nI p)), (4, .int (nI a))], [.int 4, .int (nI p)], M)) rfl rfl rfl ?_
        refine ps_st (S' := (31, [(0, .ref c), (1, .int (nI j)), (2, .int t), (3, .int (nI p)), (4, .int (nI a))], [.int 2, .int 4, .int (nI p)], M)) rfl rfl rfl ?_
        refine ps_st (S' := (32, [(0, .ref c), (1, .int (nI j)), (2, .int t), (3, .int (nI p)), (4, .int (nI a))], [.ref c, .int 2, .int 4, .int (nI p)], M)) rfl rfl rfl ?_
        refine ps_get (S' := (35, [(0, .ref c), (1, .int (nI j)), (2, .int t), (3, .int (nI p)), (4, .int (nI a))], [.ref b, .int 2, .int 4, .int (nI p)], M)) rfl h_c rfl rfl ?_
        refine ps_st (S' := (36, [(0, .ref c), (1, .int (nI j)), (2, .int t), (3, .int (nI p)), (4, .int (nI a))], [.int (nI p), .ref b, .int 2, .int 4, .int (nI p)], M)) rfl rfl rfl ?_
        refine ps_st (S' := (37, [(0, .ref c), (1, .int (nI j)), (2, .int t), (3, .int (nI p)), (4, .int (nI a))], [.int 2, .int (nI p), .ref b, .int 2, .int 4, .int (nI p)], M)) rfl rfl rfl ?_
        refine ps_st (S' := (38, [(0, .ref c), (1, .int (nI j)), (2, .int t), (3, .int (nI p)), (4, .int (nI a))], [.int ((nI p) + 2), .ref b, .int 2, .int 4, .int (nI p)], M)) rfl rfl rfl ?_
        rw [nI_add1 (p := p) (k := 2) (x := 2) rfl (by omega)]
        show pl _ _ _ (_, [(0, .ref c), (1, .int (nI j)), (2, .int t), (3, .int (nI p)), (4, .int (nI a))], [.int (nI (p + 2)), .ref b, .int 2, .int 4, .int (nI p)], M) _
        refine pl_call (a := [.ref b, .int (nI (p + 2))]) (rest := [.int 2, .int 4, .int (nI p)]) rfl rfl rfl (dk_u2 (f := f) (n := n) (b := b) (da := da) (p := (p + 2)) h_b h_da (hn) (by omega)) (fun v4 M5 q6 => ?_)
        obtain ⟨rfl, rfl⟩ := q6
        show pl _ _ _ (41, [(0, .ref c), (1, .int (nI j)), (2, .int t), (3, .int (nI p)), (4, .int (nI a))], [.int (nI (by2 f (p + 2))), .int 2, .int 4, .int (nI p)], M) _
        have hu_38 := by2_lt f (p + 2)
        refine ps_st (S' := (42, [(0, .ref c), (1, .int (nI j)), (2, .int t), (3, .int (nI p)), (4, .int (nI a))], [.int (2 * (nI (by2 f (p + 2)))), .int 4, .int (nI p)], M)) rfl rfl rfl ?_
        rw [nI_mul1 (p := 2) (k := by2 f (p + 2)) (x := 2) (y := (nI (by2 f (p + 2)))) rfl rfl (by omega)]
        show pl _ _ _ (_, [(0, .ref c), (1, .int (nI j)), (2, .int t), (3, .int (nI p)), (4, .int (nI a))], [.int (nI (2 * (by2 f (p + 2)))), .int 4, .int (nI p)], M) _
        refine ps_st (S' := (43, [(0, .ref c), (1, .int (nI j)), (2, .int t), (3, .int (nI p)), (4, .int (nI a))], [.int (4 + (nI (2 * (by2 f (p + 2))))), .int (nI p)], M)) rfl rfl rfl ?_
        rw [nI_add2 (p := 4) (k := 2 * (by2 f (p + 2))) (x := 4) (y := (nI (2 * (by2 f (p + 2))))) rfl rfl (by omega)]
        show pl _ _ _ (_, [(0, .ref c), (1, .int (nI j)), (2, .int t), (3, .int (nI p)), (4, .int (nI a))], [.int (nI (4 + 2 * (by2 f (p + 2)))), .int (nI p)], M) _
        refine ps_st (S' := (44, [(0, .ref c), (1, .int (nI j)), (2, .int t), (3, .int (nI p)), (4, .int (nI a))], [.int ((nI p) + (nI (4 + 2 * (by2 f (p + 2)))))], M)) rfl rfl rfl ?_
        rw [nI_add1 (p := p) (k := 4 + 2 * (by2 f (p + 2))) (x := (nI (4 + 2 * (by2 f (p + 2))))) rfl (by omega)]
        rw [show nI (p + (4 + 2 * (by2 f (p + 2)))) = nI (p + 4 + 2 * (by2 f (p + 2))) from congrArg nI (by omega)]
        show pl _ _ _ (_, [(0, .ref c), (1, .int (nI j)), (2, .int t), (3, .int (nI p)), (4, .int (nI a))], [.int (nI (p + 4 + 2 * (by2 f (p + 2))))], M) _
        refine ps_st (S' := (45, [(3, .int (nI (p + 4 + 2 * (by2 f (p + 2))))), (0, .ref c), (1, .int (nI j)), (2, .int t), (4, .int (nI a))], [], M)) rfl rfl rfl ?_
        refine ps_st (S' := (48, [(4, .int ((nI a) + 1)), (3, .int (nI (p + 4 + 2 * (by2 f (p + 2))))), (0, .ref c), (1, .int (nI j)), (2, .int t)], [], M)) rfl rfl rfl ?_
        rw [nI_add1 (p := a) (k := 1) (x := 1) rfl (by omega)]
        show pl _ _ _ (_, [(4, .int (nI (a + 1))), (3, .int (nI (p + 4 + 2 * (by2 f (p + 2))))), (0, .ref c), (1, .int (nI j)), (2, .int t)], [], M) _
        refine ps_st (S' := (22, [(0, .ref c), (1, .int (nI j)), (2, .int t), (3, .int (nI (p + 4 + 2 * (by2 f (p + 2))))), (4, .int (nI (a + 1)))], [], M)) rfl rfl rfl ?_
        exact ih (a + 1) (p + 4 + 2 * by2 f (p + 2))  (by omega) (hin9.2.2) (by
            rw [← hp, bsP_st (i := a) (by omega)])
  refine ps_st (S' := (1, [(0, .ref c), (1, .int (nI j)), (2, .int t)], [.int (nI j)], M)) rfl rfl rfl ?_
  refine ps_if (S1 := (12, [], [], M)) (S2 := (4, [(0, .ref c), (1, .int (nI j)), (2, .int t)], [], M)) rfl rfl rfl (fun c_1 => ?_) (fun c_1 => ?_)
  · exact absurd (of_decide_eq_true c_1) (show ¬ ((nI j) < 0) from fun h9 => absurd ((lt_nI (p := j) (n := 0) (by omega) (by decide)).mp h9) (by omega))
  refine ps_st (S' := (5, [(0, .ref c), (1, .int (nI j)), (2, .int t)], [.int (nI j)], M)) rfl rfl rfl ?_
  refine ps_st (S' := (6, [(0, .ref c), (1, .int (nI j)), (2, .int t)], [.ref c, .int (nI j)], M)) rfl rfl rfl ?_
  refine ps_get (S' := (9, [(0, .ref c), (1, .int (nI j)), (2, .int t)], [.int (nI bc), .int (nI j)], M)) rfl h_c rfl rfl ?_
  refine ps_if2 (S1 := (14, [(0, .ref c), (1, .int (nI j)), (2, .int t)], [], M)) (S2 := (12, [], [], M)) rfl rfl rfl (fun c_9 => ?_) (fun c_9 => ?_)
  rotate_left
  · exact absurd ((lt_nI (by omega) (by omega)).mpr hj) (of_decide_eq_false c_9)
  refine ps_st (S' := (15, [(0, .ref c), (1, .int (nI j)), (2, .int t)], [.ref c], M)) rfl rfl rfl ?_
  refine ps_get (S' := (18, [(0, .ref c), (1, .int (nI j)), (2, .int t)], [.int (nI bp)], M)) rfl h_c rfl rfl ?_
  refine ps_st (S' := (19, [(3, .int (nI bp)), (0, .ref c), (1, .int (nI j)), (2, .int t)], [], M)) rfl rfl rfl ?_
  refine ps_st (S' := (20, [(3, .int (nI bp)), (0, .ref c), (1, .int (nI j)), (2, .int t)], [.int 0], M)) rfl rfl rfl ?_
  refine ps_st (S' := (22, [(0, .ref c), (1, .int (nI j)), (2, .int t), (3, .int (nI bp)), (4, .int 0)], [], M)) rfl rfl rfl ?_
  exact (LL kf) (0) (bp)  (by omega) (hbs) (rfl)
set_option maxHeartbeats 1000000 in
theorem dk_bsG {g : xe_G} {M : mi_H} {f : Nat → Int32} {n q c b da fr mr bc bp : Nat} {u2 u3 u4 u5 x8 x9 x10 x13 x14 x15 x16 : Int32} {j e u : Nat} (h_c : M.1 c = some (ob 3 [.ref b, .ref q, .int u2, .int u3, .int u4, .int u5, .ref fr, .ref mr, .int x8, .int x9, .int x10, .int (nI bc), .int (nI bp), .int x13, .int x14, .int x15, .int x16])) (h_b : M.1 b = some (ob 1 [.ref da])) (h_da : M.1 da = some (ar .byte n f)) (hn : n ≤ 65540) (hbc : bc < 65536) (hj : j < bc) (he : e ≤ n) (hbs : s_bsE f e bc bp = some e) (hu : u ≤ by2 f (bsP f j bp + 2)) : pt (mT g) 70 [.ref c, .int (nI j), .int (nI u)] M (fun v M' => (v = some (.int (bsV f (bsP f j bp) u)) ∧ M = M')) := by
  refine pt_in (b := mb_70 g) rfl (fun kf => ?_)
  show pl (mT g) kf (mb_70 g).2 (0, [(0, .ref c), (1, .int (nI j)), (2, .int (nI u))], [], M) _
  have hin8 := s_bsE_in (c := bc) (i := 0) (p := bp) hbs (by omega)
  have hu7 := by2_lt f (bsP f j bp + 2)
  have LL : ∀ (kf : Nat), (∀ (a p : Nat), (a ≤ j) → (s_bsE f e (bc - a) p = some e) → (bsP f (j - a) p = bsP f j bp) →  pl (mT g) kf (mb_70 g).2 (22, [(0, .ref c), (1, .int (nI j)), (2, .int (nI u)), (3, .int (nI p)), (4, .int (nI a))], [], M) (fun v M' => (v = some (.int (bsV f (bsP f j bp) u)) ∧ M = M'))) := by
    intro kf
    induction kf with
    | zero => exact (by intros; exact pl_0)
    | succ kf ih =>
      intro a p ha hf hp
      have hin9 := s_bsE_in (i := a) (p := p) hf (by omega)
      refine ps_st1 (S' := (24, [(0, .ref c), (1, .int (nI j)), (2, .int (nI u)), (3, .int (nI p)), (4, .int (nI a))], [.int (nI a)], M)) rfl rfl rfl ?_
      refine ps_st (S' := (25, [(0, .ref c), (1, .int (nI j)), (2, .int (nI u)), (3, .int (nI p)), (4, .int (nI a))], [.int (nI j), .int (nI a)], M)) rfl rfl rfl ?_
      refine ps_if2 (S1 := (51, [(0, .ref c), (1, .int (nI j)), (2, .int (nI u)), (3, .int (nI p)), (4, .int (nI a))], [], M)) (S2 := (28, [(0, .ref c), (1, .int (nI j)), (2, .int (nI u)), (3, .int (nI p)), (4, .int (nI a))], [], M)) rfl rfl rfl (fun c_25 => ?_) (fun c_25 => ?_)
      · have c_25 : (nI j) ≤ (nI a) := of_decide_eq_true c_25
        have n_25 : j ≤ a := (le_nI (p := j) (n := a) (by omega) (by omega)).mp c_25
        have eP : p = bsP f j bp := by rw [← hp, show j - a = 0 by omega]; rfl
        rw [← eP] at hu
        have hu8 := by2_lt f (p + 2)
        refine ps_st (S' := (52, [(0, .ref c), (1, .int (nI j)), (2, .int (nI u)), (3, .int (nI p)), (4, .int (nI a))], [.int (nI u)], M)) rfl rfl rfl ?_
        refine ps_if (S1 := (69, [], [], M)) (S2 := (55, [(0, .ref c), (1, .int (nI j)), (2, .int (nI u)), (3, .int (nI p)), (4, .int (nI a))], [], M)) rfl rfl rfl (fun c_52 => ?_) (fun c_52 => ?_)
        · exact absurd (of_decide_eq_true c_52) (show ¬ ((nI u) < 0) from fun h9 => absurd ((lt_nI (p := u) (n := 0) (by omega) (by decide)).mp h9) (by omega))
        refine ps_st (S' := (56, [(0, .ref c), (1, .int (nI j)), (2, .int (nI u)), (3, .int (nI p)), (4, .int (nI a))], [.int (nI u)], M)) rfl rfl rfl ?_
        refine ps_st (S' := (57, [(0, .ref c), (1, .int (nI j)), (2, .int (nI u)), (3, .int (nI p)), (4, .int (nI a))], [.ref c, .int (nI u)], M)) rfl rfl rfl ?_
        refine ps_get (S' := (60, [(0, .ref c), (1, .int (nI j)), (2, .int (nI u)), (3, .int (nI p)), (4, .int (nI a))], [.ref b, .int (nI u)], M)) rfl h_c rfl rfl ?_
        refine ps_st (S' := (61, [(0, .ref c), (1, .int (nI j)), (2, .int (nI u)), (3, .int (nI p)), (4, .int (nI a))], [.int (nI p), .ref b, .int (nI u)], M)) rfl rfl rfl ?_
        refine ps_st (S' := (62, [(0, .ref c), (1, .int (nI j)), (2, .int (nI u)), (3, .int (nI p)), (4, .int (nI a))], [.int 2, .int (nI p), .ref b, .int (nI u)], M)) rfl rfl rfl ?_
        refine ps_st (S' := (63, [(0, .ref c), (1, .int (nI j)), (2, .int (nI u)), (3, .int (nI p)), (4, .int (nI a))], [.int ((nI p) + 2), .ref b, .int (nI u)], M)) rfl rfl rfl ?_
        rw [nI_add1 (p := p) (k := 2) (x := 2) rfl (by omega)]
        show pl _ _ _ (_, [(0, .ref c), (1, .int (nI j)), (2, .int (nI u)), (3, .int (nI p)), (4, .int (nI a))], [.int (nI (p + 2)), .ref b, .int (nI u)], M) _
        refine pl_call (a := [.ref b, .int (nI (p + 2))]) (rest := [.int (nI u)]) rfl rfl rfl (dk_u2 (f := f) (n := n) (b := b) (da := da) (p := (p + 2)) h_b h_da (hn) (by omega)) (fun v1 M2 q3 => ?_)
        obtain ⟨rfl, rfl⟩ := q3
        show pl _ _ _ (66, [(0, .ref c), (1, .int (nI j)), (2, .int (nI u)), (3, .int (nI p)), (4, .int (nI a))], [.int (nI (by2 f (p + 2))), .int (nI u)], M) _
        have hu_63 := by2_lt f (p + 2)
        refine ps_if2 (S1 := (71, [(0, .ref c), (1, .int (nI j)), (2, .int (nI u)), (3, .int (nI p)), (4, .int (nI a))], [], M)) (S2 := (69, [], [], M)) rfl rfl rfl (fun c_66 => ?_) (fun c_66 => ?_)
        rotate_left
        · exact absurd ((le_nI (p := u) (n := by2 f (p + 2)) (by omega) (Nat.lt_trans (by2_lt _ _) (by decide))).mpr hu) (of_decide_eq_false c_66)
        refine ps_st (S' := (72, [(0, .ref c), (1, .int (nI j)), (2, .int (nI u)), (3, .int (nI p)), (4, .int (nI a))], [.ref c], M)) rfl rfl rfl ?_
        refine ps_get (S' := (75, [(0, .ref c), (1, .int (nI j)), (2, .int (nI u)), (3, .int (nI p)), (4, .int (nI a))], [.ref b], M)) rfl h_c rfl rfl ?_
        refine ps_st (S' := (76, [(0, .ref c), (1, .int (nI j)), (2, .int (nI u)), (3, .int (nI p)), (4, .int (nI a))], [.int (nI u), .ref b], M)) rfl rfl rfl ?_
        refine ps_if (S1 := (83, [(0, .ref c), (1, .int (nI j)), (2, .int (nI u)), (3, .int (nI p)), (4, .int (nI a))], [.ref b], M)) (S2 := (79, [(0, .ref c), (1, .int (nI j)), (2, .int (nI u)), (3, .int (nI p)), (4, .int (nI a))], [.ref b], M)) rfl rfl rfl (fun c_76 => ?_) (fun c_76 => ?_)
        · have c_76 : ¬ (nI u) = 0 := of_decide_eq_true c_76
          have n_76 : ¬ (u = 0) := fun h9 => c_76 ((eq_nI (p := u) (n := 0) (by omega) (by decide)).mpr h9)
          refine ps_st (S' := (84, [(0, .ref c), (1, .int (nI j)), (2, .int (nI u)), (3, .int (nI p)), (4, .int (nI a))], [.int (nI p), .ref b], M)) rfl rfl rfl ?_
          refine ps_st (S' := (85, [(0, .ref c), (1, .int (nI j)), (2, .int (nI u)), (3, .int (nI p)), (4, .int (nI a))], [.int 2, .int (nI p), .ref b], M)) rfl rfl rfl ?_
          refine ps_st (S' := (86, [(0, .ref c), (1, .int (nI j)), (2, .int (nI u)), (3, .int (nI p)), (4, .int (nI a))], [.int ((nI p) + 2), .ref b], M)) rfl rfl rfl ?_
          rw [nI_add1 (p := p) (k := 2) (x := 2) rfl (by omega)]
          show pl _ _ _ (_, [(0, .ref c), (1, .int (nI j)), (2, .int (nI u)), (3, .int (nI p)), (4, .int (nI a))], [.int (nI (p + 2)), .ref b], M) _
          refine ps_st (S' := (87, [(0, .ref c), (1, .int (nI j)), (2, .int (nI u)), (3, .int (nI p)), (4, .int (nI a))], [.int 2, .int (nI (p + 2)), .ref b], M)) rfl rfl rfl ?_
          refine ps_st (S' := (88, [(0, .ref c), (1, .int (nI j)), (2, .int (nI u)), (3, .int (nI p)), (4, .int (nI a))], [.int (nI u), .int 2, .int (nI (p + 2)), .ref b], M)) rfl rfl rfl ?_
          refine ps_st (S' := (89, [(0, .ref c), (1, .int (nI j)), (2, .int (nI u)), (3, .int (nI p)), (4, .int (nI a))], [.int (2 * (nI u)), .int (nI (p + 2)), .ref b], M)) rfl rfl rfl ?_
          rw [nI_mul1 (p := 2) (k := u) (x := 2) (y := (nI u)) rfl rfl (by omega)]
          show pl _ _ _ (_, [(0, .ref c), (1, .int (nI j)), (2, .int (nI u)), (3, .int (nI p)), (4, .int (nI a))], [.int (nI (2 * u)), .int (nI (p + 2)), .ref b], M) _
          refine ps_st (S' := (90, [], [.int ((nI (p + 2)) + (nI (2 * u))), .ref b], M)) rfl rfl rfl ?_
          rw [nI_add1 (p := p + 2) (k := 2 * u) (x := (nI (2 * u))) rfl (by omega)]
          show pl _ _ _ (_, [], [.int (nI (p + 2 + 2 * u)), .ref b], M) _
          refine pl_call (a := [.ref b, .int (nI (p + 2 + 2 * u))]) (rest := []) rfl rfl rfl (dk_u2 (f := f) (n := n) (b := b) (da := da) (p := (p + 2 + 2 * u)) h_b h_da (hn) (by omega)) (fun v4 M5 q6 => ?_)
          obtain ⟨rfl, rfl⟩ := q6
          show pl _ _ _ (93, [], [.int (nI (by2 f (p + 2 + 2 * u)))], M) _
          have hu_90 := by2_lt f (p + 2 + 2 * u)
          exact ps_reti rfl (⟨congrArg (fun x => some (Value.int x)) (show (nI (by2 f (p + 2 + 2 * u))) = bsV f (bsP f j bp) u from by rw [← eP]; unfold bsV; rw [if_neg (by omega)]), rfl⟩)
        · have c_76 : ¬ (¬ (nI u) = 0) := of_decide_eq_false c_76
          have n_76 : u = 0 := (eq_nI (p := u) (n := 0) (by omega) (by decide)).mp (Decidable.not_not.mp c_76)
          refine ps_st (S' := (80, [(0, .ref c), (1, .int (nI j)), (2, .int (nI u)), (3, .int (nI p)), (4, .int (nI a))], [.int (nI p), .ref b], M)) rfl rfl rfl ?_
          refine ps_st (S' := (90, [], [.int (nI p), .ref b], M)) rfl rfl rfl ?_
          refine pl_call (a := [.ref b, .int (nI p)]) (rest := []) rfl rfl rfl (dk_u2 (f := f) (n := n) (b := b) (da := da) (p := (p)) h_b h_da (hn) (by omega)) (fun v7 M8 q9 => ?_)
          obtain ⟨rfl, rfl⟩ := q9
          show pl _ _ _ (93, [], [.int (nI (by2 f (p)))], M) _
          have hu_90 := by2_lt f (p)
          exact ps_reti rfl (⟨congrArg (fun x => some (Value.int x)) (show (nI (by2 f (p))) = bsV f (bsP f j bp) u from by rw [← eP]; unfold bsV; rw [if_pos (by omega)]), rfl⟩)
      · have c_25 : ¬ ((nI j) ≤ (nI a)) := of_decide_eq_false c_25
        have n_25 : ¬ (j ≤ a) := fun h9 => c_25 ((le_nI (p := j) (n := a) (by omega) (by omega)).mpr h9)
        refine ps_st (S' := (29, [(0, .ref c), (1, .int (nI j)), (2, .int (nI u)), (3, .int (nI p)), (4, .int (nI a))], [.int (nI p)], M)) rfl rfl rfl ?_
        refine ps_st (S' := (30, [(0, .ref c), (1, .int (nI j)), (2, .int (nI u)), (3, .int (nI p)), (4, .int (nI a))], [.int 4, .int (nI p)], M)) rfl rfl rfl ?_
        refine ps_st (S' := (31, [(0, .ref c), (1, .int (nI j)), (2, .int (nI u)), (3, .int (nI p)), (4, .int (nI a))], [.int 2, .int 4, .int (nI p)], M)) rfl rfl rfl ?_
        refine ps_st (S' := (32, [(0, .ref c), (1, .int (nI j)), (2, .int (nI u)), (3, .int (nI p)), (4, .int (nI a))], [.ref c, .int 2, .int 4, .int (nI p)], M)) rfl rfl rfl ?_
        refine ps_get (S' := (35, [(0, .ref c), (1, .int (nI j)), (2, .int (nI u)), (3, .int (nI p)), (4, .int (nI a))], [.ref b, .int 2, .int 4, .int (nI p)], M)) rfl h_c rfl rfl ?_
        refine ps_st (S' := (36, [(0, .ref c), (1, .int (nI j)), (2, .int (nI u)), (3, .int (nI p)), (4, .int (nI a))], [.int (nI p), .ref b, .int 2, .int 4, .int (nI p)], M)) rfl rfl rfl ?_
        refine ps_st (S' := (37, [(0, .ref c), (1, .int (nI j)), (2, .int (nI u)), (3, .int (nI p)), (4, .int (nI a))], [.int 2, .int (nI p), .ref b, .int 2, .int 4, .int (nI p)], M)) rfl rfl rfl ?_
        refine ps_st (S' := (38, [(0, .ref c), (1, .int (nI j)), (2, .int (nI u)), (3, .int (nI p)), (4, .int (nI a))], [.int ((nI p) + 2), .ref b, .int 2, .int 4, .int (nI p)], M)) rfl rfl rfl ?_
        rw [nI_add1 (p := p) (k := 2) (x := 2) rfl (by omega)]
        show pl _ _ _ (_, [(0, .ref c), (1, .int (nI j)), (2, .int (nI u)), (3, .int (nI p)), (4, .int (nI a))], [.int (nI (p + 2)), .ref b, .int 2, .int 4, .int (nI p)], M) _
        refine pl_call (a := [.ref b, .int (nI (p + 2))]) (rest := [.int 2, .int 4, .int (nI p)]) rfl rfl rfl (dk_u2 (f := f) (n := n) (b := b) (da := da) (p := (p + 2)) h_b h_da (hn) (by omega)) (fun v10 M11 q12 => ?_)
        obtain ⟨rfl, rfl⟩ := q12
        show pl _ _ _ (41, [(0, .ref c), (1, .int (nI j)), (2, .int (nI u)), (3, .int (nI p)), (4, .int (nI a))], [.int (nI (by2 f (p + 2))), .int 2, .int 4, .int (nI p)], M) _
        have hu_38 := by2_lt f (p + 2)
        refine ps_st (S' := (42, [(0, .ref c), (1, .int (nI j)), (2, .int (nI u)), (3, .int (nI p)), (4, .int (nI a))], [.int (2 * (nI (by2 f (p + 2)))), .int 4, .int (nI p)], M)) rfl rfl rfl ?_
        rw [nI_mul1 (p := 2) (k := by2 f (p + 2)) (x := 2) (y := (nI (by2 f (p + 2)))) rfl rfl (by omega)]
        show pl _ _ _ (_, [(0, .ref c), (1, .int (nI j)), (2, .int (nI u)), (3, .int (nI p)), (4, .int (nI a))], [.int (nI (2 * (by2 f (p + 2)))), .int 4, .int (nI p)], M) _
        refine ps_st (S' := (43, [(0, .ref c), (1, .int (nI j)), (2, .int (nI u)), (3, .int (nI p)), (4, .int (nI a))], [.int (4 + (nI (2 * (by2 f (p + 2))))), .int (nI p)], M)) rfl rfl rfl ?_
        rw [nI_add2 (p := 4) (k := 2 * (by2 f (p + 2))) (x := 4) (y := (nI (2 * (by2 f (p + 2))))) rfl rfl (by omega)]
        show pl _ _ _ (_, [(0, .ref c), (1, .int (nI j)), (2, .int (nI u)), (3, .int (nI p)), (4, .int (nI a))], [.int (nI (4 + 2 * (by2 f (p + 2)))), .int (nI p)], M) _
        refine ps_st (S' := (44, [(0, .ref c), (1, .int (nI j)), (2, .int (nI u)), (3, .int (nI p)), (4, .int (nI a))], [.int ((nI p) + (nI (4 + 2 * (by2 f (p + 2)))))], M)) rfl rfl rfl ?_
        rw [nI_add1 (p := p) (k := 4 + 2 * (by2 f (p + 2))) (x := (nI (4 + 2 * (by2 f (p + 2))))) rfl (by omega)]
        rw [show nI (p + (4 + 2 * (by2 f (p + 2)))) = nI (p + 4 + 2 * (by2 f (p + 2))) from congrArg nI (by omega)]
        show pl _ _ _ (_, [(0, .ref c), (1, .int (nI j)), (2, .int (nI u)), (3, .int (nI p)), (4, .int (nI a))], [.int (nI (p + 4 + 2 * (by2 f (p + 2))))], M) _
        refine ps_st (S' := (45, [(3, .int (nI (p + 4 + 2 * (by2 f (p + 2))))), (0, .ref c), (1, .int (nI j)), (2, .int (nI u)), (4, .int (nI a))], [], M)) rfl rfl rfl ?_
        refine ps_st (S' := (48, [(4, .int ((nI a) + 1)), (3, .int (nI (p + 4 + 2 * (by2 f (p + 2))))), (0, .ref c), (1, .int (nI j)), (2, .int (nI u))], [], M)) rfl rfl rfl ?_
        rw [nI_add1 (p := a) (k := 1) (x := 1) rfl (by omega)]
        show pl _ _ _ (_, [(4, .int (nI (a + 1))), (3, .int (nI (p + 4 + 2 * (by2 f (p + 2))))), (0, .ref c), (1, .int (nI j)), (2, .int (nI u))], [], M) _
        refine ps_st (S' := (22, [(0, .ref c), (1, .int (nI j)), (2, .int (nI u)), (3, .int (nI (p + 4 + 2 * (by2 f (p + 2))))), (4, .int (nI (a + 1)))], [], M)) rfl rfl rfl ?_
        exact ih (a + 1) (p + 4 + 2 * by2 f (p + 2))  (by omega) (hin9.2.2) (by
            rw [← hp, bsP_st (i := a) (by omega)])
  refine ps_st (S' := (1, [(0, .ref c), (1, .int (nI j)), (2, .int (nI u))], [.int (nI j)], M)) rfl rfl rfl ?_
  refine ps_if (S1 := (12, [], [], M)) (S2 := (4, [(0, .ref c), (1, .int (nI j)), (2, .int (nI u))], [], M)) rfl rfl rfl (fun c_1 => ?_) (fun c_1 => ?_)
  · exact absurd (of_decide_eq_true c_1) (show ¬ ((nI j) < 0) from fun h9 => absurd ((lt_nI (p := j) (n := 0) (by omega) (by decide)).mp h9) (by omega))
  refine ps_st (S' := (5, [(0, .ref c), (1, .int (nI j)), (2, .int (nI u))], [.int (nI j)], M)) rfl rfl rfl ?_
  refine ps_st (S' := (6, [(0, .ref c), (1, .int (nI j)), (2, .int (nI u))], [.ref c, .int (nI j)], M)) rfl rfl rfl ?_
  refine ps_get (S' := (9, [(0, .ref c), (1, .int (nI j)), (2, .int (nI u))], [.int (nI bc), .int (nI j)], M)) rfl h_c rfl rfl ?_
  refine ps_if2 (S1 := (14, [(0, .ref c), (1, .int (nI j)), (2, .int (nI u))], [], M)) (S2 := (12, [], [], M)) rfl rfl rfl (fun c_9 => ?_) (fun c_9 => ?_)
  rotate_left
  · exact absurd ((lt_nI (by omega) (by omega)).mpr hj) (of_decide_eq_false c_9)
  refine ps_st (S' := (15, [(0, .ref c), (1, .int (nI j)), (2, .int (nI u))], [.ref c], M)) rfl rfl rfl ?_
  refine ps_get (S' := (18, [(0, .ref c), (1, .int (nI j)), (2, .int (nI u))], [.int (nI bp)], M)) rfl h_c rfl rfl ?_
  refine ps_st (S' := (19, [(3, .int (nI bp)), (0, .ref c), (1, .int (nI j)), (2, .int (nI u))], [], M)) rfl rfl rfl ?_
  refine ps_st (S' := (20, [(3, .int (nI bp)), (0, .ref c), (1, .int (nI j)), (2, .int (nI u))], [.int 0], M)) rfl rfl rfl ?_
  refine ps_st (S' := (22, [(0, .ref c), (1, .int (nI j)), (2, .int (nI u)), (3, .int (nI bp)), (4, .int 0)], [], M)) rfl rfl rfl ?_
  exact (LL kf) (0) (bp)  (by omega) (hbs) (rfl)
set_option maxHeartbeats 1000000 in
theorem dk_bootstrap0 {g : xe_G} {M : mi_H} {o ca fl : Nat} {cn wp i t : Int32} (h_o : M.1 o = some (ob 11 [.ref ca, .int cn, .ref fl, .null, .int wp]))  : pt (mT g) 2 [.ref o, .int i, .int t] M (fun v M' => (v = some (.int (-1)) ∧ M = M')) := by
  refine pt_in (b := mb_2 g) rfl (fun kf => ?_)
  show pl (mT g) kf (mb_2 g).2 (0, [(0, .ref o), (1, .int i), (2, .int t)], [], M) _
  refine ps_st (S' := (1, [(0, .ref o), (1, .int i), (2, .int t)], [.ref o], M)) rfl rfl rfl ?_
  refine ps_get (S' := (4, [(0, .ref o), (1, .int i), (2, .int t)], [.null], M)) rfl h_o rfl rfl ?_
  refine ps_st (S' := (7, [(0, .ref o), (1, .int i), (2, .int t)], [], M)) rfl rfl rfl ?_
  refine ps_st (S' := (8, [(0, .ref o), (1, .int i), (2, .int t)], [.int (-1)], M)) rfl rfl rfl ?_
  refine ps_st (S' := (20, [], [.int (-1)], M)) rfl rfl rfl ?_
  exact ps_ret rfl rfl (⟨rfl, rfl⟩)
theorem dk_bsPart {g : xe_G} {M : mi_H} {f : Nat → Int32} {n q c b da fr mr bc bp : Nat} {u2 u3 u4 u5 x8 x9 x10 x13 x14 x15 x16 : Int32} {i t : Int32} (h_c : M.1 c = some (ob 3 [.ref b, .ref q, .int u2, .int u3, .int u4, .int u5, .ref fr, .ref mr, .int x8, .int x9, .int x10, .int (nI bc), .int (nI bp), .int x13, .int x14, .int x15, .int x16])) (h_b : M.1 b = some (ob 1 [.ref da])) (h_da : M.1 da = some (ar .byte n f)) (hn : n ≤ 65540) (hbc : bc < 65536) (hbs : bc = 0 ∨ (8 ≤ bp ∧ ∃ e, e ≤ n ∧ s_bsE f e bc bp = some e)) : pt (mT g) 70 [.ref c, .int i, .int t] M (fun v M' => (v = some (.int (bsI f bc bp i t)) ∧ M = M')) := by
  unfold bsI
  by_cases hi : i < 0 ∨ nI bc ≤ i
  · rw [if_pos hi]
    exact dk_bsN (f := f) (n := n) (da := da) h_c hi
  · rw [if_neg hi]
    obtain ⟨ei, hj⟩ := i32_in (by omega) hi
    obtain ⟨j, ej⟩ : ∃ j, j = i.toNatClampNeg := ⟨_, rfl⟩
    rw [← ej] at ei hj ⊢
    subst ei
    rcases hbs with h9 | ⟨-, e, he, hbs⟩
    · omega
    · by_cases ht : t < 0 ∨ nI (by2 f (bsP f j bp + 2)) < t
      · rw [if_pos ht]
        exact dk_bsB h_c h_b h_da hn hbc hj he hbs ht
      · rw [if_neg ht]
        have hu7 := by2_lt f (bsP f j bp + 2)
        have h0 : ¬ t < 0 := fun q => ht (Or.inl q)
        have et := i32_nn h0
        have hle : t.toNatClampNeg ≤ by2 f (bsP f j bp + 2) := by
          have h1 := Int32.le_iff_toInt_le.mp (Int32.not_lt.mp (fun q => ht (Or.inr q)))
          rw [nI_val (by omega)] at h1
          have h2 := i32_to h0
          omega
        obtain ⟨u, eu⟩ : ∃ u, u = t.toNatClampNeg := ⟨_, rfl⟩
        rw [← eu] at et hle ⊢
        subst et
        exact dk_bsG h_c h_b h_da hn hbc hj he hbs hle
set_option maxHeartbeats 1000000 in
theorem dk_bootstrapK {g : xe_G} {M : mi_H} {f : Nat → Int32} {n q c b da fr mr bc bp : Nat} {u2 u3 u4 u5 x8 x9 x10 x13 x14 x15 x16 : Int32} {o ca fl : Nat} {cn wp i t : Int32} (h_o : M.1 o = some (ob 11 [.ref ca, .int cn, .ref fl, .ref c, .int wp])) (h_c : M.1 c = some (ob 3 [.ref b, .ref q, .int u2, .int u3, .int u4, .int u5, .ref fr, .ref mr, .int x8, .int x9, .int x10, .int (nI bc), .int (nI bp), .int x13, .int x14, .int x15, .int x16])) (h_b : M.1 b = some (ob 1 [.ref da])) (h_da : M.1 da = some (ar .byte n f)) (hn : n ≤ 65540) (hbc : bc < 65536) (hbs : bc = 0 ∨ (8 ≤ bp ∧ ∃ e, e ≤ n ∧ s_bsE f e bc bp = some e)) : pt (mT g) 2 [.ref o, .int i, .int t] M (fun v M' => (v = some (.int (bsI f bc bp i t)) ∧ M = M')) := by
  refine pt_in (b := mb_2 g) rfl (fun kf => ?_)
  show pl (mT g) kf (mb_2 g).2 (0, [(0, .ref o), (1, .int i), (2, .int t)], [], M) _
  refine ps_st (S' := (1, [(0, .ref o), (1, .int i), (2, .int t)], [.ref o], M)) rfl rfl rfl ?_
  refine ps_get (S' := (4, [(0, .ref o), (1, .int i), (2, .int t)], [.ref c], M)) rfl h_o rfl rfl ?_
  refine ps_st (S' := (11, [(0, .ref o), (1, .int i), (2, .int t)], [], M)) rfl rfl rfl ?_
  refine ps_st (S' := (12, [(0, .ref o), (1, .int i), (2, .int t)], [.ref o], M)) rfl rfl rfl ?_
  refine ps_get (S' := (15, [(0, .ref o), (1, .int i), (2, .int t)], [.ref c], M)) rfl h_o rfl rfl ?_
  refine ps_st (S' := (16, [(0, .ref o), (1, .int i), (2, .int t)], [.int i, .ref c], M)) rfl rfl rfl ?_
  refine ps_st (S' := (17, [(0, .ref o), (1, .int i), (2, .int t)], [.int t, .int i, .ref c], M)) rfl rfl rfl ?_
  refine pl_call (a := [.ref c, .int i, .int t]) (rest := []) rfl rfl rfl (dk_bsPart (f := f) (n := n) (q := q) (c := c) (b := b) (da := da) (fr := fr) (mr := mr) (bc := bc) (bp := bp) (u2 := u2) (u3 := u3) (u4 := u4) (u5 := u5) (x8 := x8) (x9 := x9) (x10 := x10) (x13 := x13) (x14 := x14) (x15 := x15) (x16 := x16) (i := i) (t := t) h_c h_b h_da (hn) (hbc) (hbs)) (fun v1 M2 q3 => ?_)
  obtain ⟨rfl, rfl⟩ := q3
  show pl _ _ _ (20, [], [.int (bsI f bc bp i t)], M) _
  exact ps_reti rfl (⟨rfl, rfl⟩)
theorem dk_bootstrap {g : xe_G} {M : mi_H} {ko : Option (Nat × (Nat → Int32))} {kv : Value} {cm o fl : Nat} {cn wp i t : Int32} (hx : M.1 o = some (ob 11 [.ref cm, .int cn, .ref fl, kv, .int wp])) (hK : KPC g ko kv cm M) : pt (mT g) 2 [.ref o, .int i, .int t] M (fun v M' => v = some (.int (bsK ko i t)) ∧ M = M') := by
  cases ko with
  | none =>
    have e : kv = .null := hK
    subst e
    exact dk_bootstrap0 hx
  | some r =>
    obtain ⟨c, da, rfl, ⟨b, q, N, E, p1, pF, pM, pA, w, h1, h2, h3, h4, h5, rfl, -, h7, fr, mr, G1, G2, k1, k2, bc, K, rfl, m1, m2, m3, m4, m5, m6, m7, m8, -⟩, -, -⟩ := hK
    rw [bsK_is h5 m7 m8]
    exact dk_bootstrapK hx h1 h2 h3 h7 (clS_bc m7) (cl_bt m6 m7 m8)
