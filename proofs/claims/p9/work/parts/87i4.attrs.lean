/-! attributes: the loops over them (laid by wip/p4/d14.py) -/
section KUA
/-- what a class's attributes tell: how many are known, where the bootstraps are, how many inner classes, members of the nest, permitted subclasses, components -/
abbrev KT : Type := Nat × Nat × Nat × Nat × Nat × Int32
def stU (f : Nat → Int32) (k p : Nat) (K : KT) : KT := (if k = 0 then K.1 else K.1 + 1, if k = 6 then p + 8 else K.2.1, if k = 5 then by2 f (p + 6) else K.2.2.1, if k = 8 then by2 f (p + 6) else K.2.2.2.1, if k = 10 then by2 f (p + 6) else K.2.2.2.2.1, if k = 9 then (nI (by2 f (p + 6))) else K.2.2.2.2.2)
def clU (f : Nat → Int32) (n : Nat) (E : List (Nat × Nat)) (mj : Nat) : Nat → Nat → KT → KT
  | 0, _, K => K
  | r + 1, p, K => clU f n E mj r (p + 6 + by4 f (p + 2)) (stU f (ckN f n E mj (by2 f p)) p K)
theorem clU_st {f : Nat → Int32} {n : Nat} {E : List (Nat × Nat)} {mj c i p : Nat} {K : KT} (h : i < c) : clU f n E mj (c - i) p K = clU f n E mj (c - (i + 1)) (p + 6 + by4 f (p + 2)) (stU f (ckN f n E mj (by2 f p)) p K) := by
  rw [show c - i = (c - (i + 1)) + 1 by omega]
  rfl
/-- how many of the bits 0 to 10 are set -/
def popN (s : Nat) : Nat := sb s 0 + sb s 1 + sb s 2 + sb s 3 + sb s 4 + sb s 5 + sb s 6 + sb s 7 + sb s 8 + sb s 9 + sb s 10
theorem pop_so {s k : Nat} (hk : k < 11) (h0 : sb s k = 0) : popN (so s k) = popN s + 1 := by
  unfold popN
  simp only [sb_so]
  rcases (show k = 0 ∨ k = 1 ∨ k = 2 ∨ k = 3 ∨ k = 4 ∨ k = 5 ∨ k = 6 ∨ k = 7 ∨ k = 8 ∨ k = 9 ∨ k = 10 by omega) with rfl | rfl | rfl | rfl | rfl | rfl | rfl | rfl | rfl | rfl | rfl
  all_goals
    rw [h0]
    simp
  all_goals omega
theorem nw_pop {f : Nat → Int32} {E : List (Nat × Nat)} {s k p s' : Nat} (h : nwS f E s k p = .inr s') (hk : k < 11) : popN s' = if k = 0 then popN s else popN s + 1 := by
  unfold nwS at h
  split at h
  · cases h
  · split at h
    · rename_i h1
      cases h
      rw [if_pos h1]
    · rename_i h1
      split at h
      · cases h
      · rename_i h2
        cases h
        rw [if_neg h1]
        exact pop_so hk (Decidable.not_not.mp h2)
theorem stU_k {f : Nat → Int32} {k p : Nat} {K : KT} (h : ¬ k = 0) : (stU f k p K).1 = K.1 + 1 := if_neg h
theorem stU_0 {f : Nat → Int32} {p : Nat} {K : KT} : stU f 0 p K = K := by
  unfold stU
  rw [if_pos rfl, if_neg (by decide), if_neg (by decide), if_neg (by decide), if_neg (by decide), if_neg (by decide)]
/-- where the reference's bootstraps begin, with their number -/
def b7 (K : KT) : Int32 := if K.2.1 = 0 then -1 else nI (K.2.1 - 2)
theorem b7_st {f : Nat → Int32} {k p : Nat} {K : KT} : b7 (stU f k p K) = if k = 6 then (nI (p + 6)) else b7 K := by
  unfold b7
  show (if (if k = 6 then p + 8 else K.2.1) = 0 then (-1 : Int32) else nI ((if k = 6 then p + 8 else K.2.1) - 2)) = _
  by_cases h : k = 6
  · rw [if_pos h, if_pos h, if_neg (by omega)]
    rfl
  · rw [if_neg h, if_neg h]
end KUA
set_option maxHeartbeats 1000000 in
theorem dk_recordHolds {g : xe_G} {M : mi_H} {f : Nat → Int32} {n N q : Nat} {E : List (Nat × Nat)} {ac c b da vd fr mr fa ic mj na pa : Nat} {mi ru wa s1 k1 k2 k3 k4 k5 k6 : Int32} {p ct e : Nat} (h_ac : M.1 ac = some (ob 0 [.ref c, .ref b, .ref q, .ref vd, .int s1])) (h_b : M.1 b = some (ob 1 [.ref da])) (h_da : M.1 da = some (ar .byte n f)) (h_c : M.1 c = some (ob 3 [.ref b, .ref q, .int mi, .int (nI mj), .int (nI fa), .int (nI ic), .ref fr, .ref mr, .int (nI na), .int (nI pa), .int k1, .int k2, .int k3, .int k4, .int k5, .int k6, .int (nI ct)])) (h_vd : M.1 vd = some (ob 10 [.int ru, .int wa])) (hn : n ≤ 65540) (hct : ct < 65536) (he : e ≤ n) (hp : p < 70000) (hf0 : s_rcE f e ct (p + 8) = some e) (hV : PV g f n N E q M) : pt (mT g) 42 [.ref ac, .int (nI p)] M (fun v M' => ((rcS f n E p ct (p + 8) = none) ∧ v = some (.int 1) ∧ M'.1 vd = some (ob 10 [.int ru, .int wa]) ∧ fm [vd] M M') ∨ (∃ (e9 : Nat × Nat), (rcS f n E p ct (p + 8) = some e9) ∧ v = some (.int 0) ∧ M'.1 vd = some (ob 10 [.int (nI e9.1), .int (nI e9.2)]) ∧ fm [vd] M M')) := by
  refine pt_in (b := mb_42 g) rfl (fun kf => ?_)
  show pl (mT g) kf (mb_42 g).2 (0, [(0, .ref ac), (1, .int (nI p))], [], M) _
  have hF : fm [vd] M M := fm.rf
  have LL : ∀ (kf : Nat), (∀ (i x : Nat) (M1 : mi_H), (M1.1 ac = some (ob 0 [.ref c, .ref b, .ref q, .ref vd, .int s1])) → (M1.1 b = some (ob 1 [.ref da])) → (M1.1 da = some (ar .byte n f)) → (M1.1 c = some (ob 3 [.ref b, .ref q, .int mi, .int (nI mj), .int (nI fa), .int (nI ic), .ref fr, .ref mr, .int (nI na), .int (nI pa), .int k1, .int k2, .int k3, .int k4, .int k5, .int k6, .int (nI ct)])) → (M1.1 vd = some (ob 10 [.int ru, .int wa])) → (PV g f n N E q M1) → (fm [vd] M M1) → (i ≤ ct) → (s_rcE f e (ct - i) x = some e) → (rcS f n E p (ct - i) x = rcS f n E p ct (p + 8)) →  pl (mT g) kf (mb_42 g).2 (7, [(0, .ref ac), (1, .int (nI p)), (2, .int (nI x)), (3, .int (nI i))], [], M1) (fun v M' => ((rcS f n E p ct (p + 8) = none) ∧ v = some (.int 1) ∧ M'.1 vd = some (ob 10 [.int ru, .int wa]) ∧ fm [vd] M M') ∨ (∃ (e9 : Nat × Nat), (rcS f n E p ct (p + 8) = some e9) ∧ v = some (.int 0) ∧ M'.1 vd = some (ob 10 [.int (nI e9.1), .int (nI e9.2)]) ∧ fm [vd] M M'))) ∧ (∀ (i x j y x9 : Nat) (M1 : mi_H), (M1.1 ac = some (ob 0 [.ref c, .ref b, .ref q, .ref vd, .int s1])) → (M1.1 b = some (ob 1 [.ref da])) → (M1.1 da = some (ar .byte n f)) → (M1.1 c = some (ob 3 [.ref b, .ref q, .int mi, .int (nI mj), .int (nI fa), .int (nI ic), .ref fr, .ref mr, .int (nI na), .int (nI pa), .int k1, .int k2, .int k3, .int k4, .int k5, .int k6, .int (nI ct)])) → (M1.1 vd = some (ob 10 [.int ru, .int wa])) → (PV g f n N E q M1) → (fm [vd] M M1) → (i < ct) → (j ≤ by2 f (x + 4)) → (s_atE f e (by2 f (x + 4) - j) y = some x9) → (s_rcE f e (ct - (i + 1)) x9 = some e) → (¬ (unqN (tX f n E (by2 f x)) = 0 ∨ fldN (tX f n E (by2 f (x + 2))) = 0)) → (rcS f n E p (ct - i) x = rcS f n E p ct (p + 8)) → (rcA f E (by2 f (x + 4) - j) y = rcA f E (by2 f (x + 4)) (x + 6)) →  pl (mT g) kf (mb_42 g).2 (85, [(0, .ref ac), (1, .int (nI p)), (2, .int (nI y)), (3, .int (nI i)), (4, .int (nI (by2 f (x + 4)))), (5, .int (nI j))], [], M1) (fun v M' => ((rcS f n E p ct (p + 8) = none) ∧ v = some (.int 1) ∧ M'.1 vd = some (ob 10 [.int ru, .int wa]) ∧ fm [vd] M M') ∨ (∃ (e9 : Nat × Nat), (rcS f n E p ct (p + 8) = some e9) ∧ v = some (.int 0) ∧ M'.1 vd = some (ob 10 [.int (nI e9.1), .int (nI e9.2)]) ∧ fm [vd] M M'))) := by
    intro kf
    induction kf with
    | zero => exact ⟨by intros; exact pl_0, by intros; exact pl_0⟩
    | succ kf ih =>
      refine ⟨?_, ?_⟩
      · skip
        intro i x M1 hl_ac hl_b hl_da hl_c hl_vd hV1 hF1 hi hf hs
        refine ps_st1 (S' := (8, [(0, .ref ac), (1, .int (nI p)), (2, .int (nI x)), (3, .int (nI i))], [.int (nI i)], M1)) rfl rfl rfl ?_
        refine ps_st (S' := (9, [(0, .ref ac), (1, .int (nI p)), (2, .int (nI x)), (3, .int (nI i))], [.ref ac, .int (nI i)], M1)) rfl rfl rfl ?_
        refine ps_get (S' := (12, [(0, .ref ac), (1, .int (nI p)), (2, .int (nI x)), (3, .int (nI i))], [.ref c, .int (nI i)], M1)) rfl hl_ac rfl rfl ?_
        refine ps_get (S' := (15, [(0, .ref ac), (1, .int (nI p)), (2, .int (nI x)), (3, .int (nI i))], [.int (nI ct), .int (nI i)], M1)) rfl hl_c rfl rfl ?_
        refine ps_if2 (S1 := (121, [(0, .ref ac), (1, .int (nI p)), (2, .int (nI x)), (3, .int (nI i))], [], M1)) (S2 := (18, [(0, .ref ac), (1, .int (nI p)), (2, .int (nI x)), (3, .int (nI i))], [], M1)) rfl rfl rfl (fun c_15 => ?_) (fun c_15 => ?_)
        · have c_15 : (nI ct) ≤ (nI i) := of_decide_eq_true c_15
          have n_15 : ct ≤ i := (le_nI (p := ct) (n := i) (by omega) (by omega)).mp c_15
          refine ps_st (S' := (122, [(0, .ref ac), (1, .int (nI p)), (2, .int (nI x)), (3, .int (nI i))], [.int 1], M1)) rfl rfl rfl ?_
          exact ps_ret rfl rfl (Or.inl ⟨by rw [← hs, show ct - i = 0 by omega]; rfl, rfl, hl_vd, hF1⟩)
        · have c_15 : ¬ ((nI ct) ≤ (nI i)) := of_decide_eq_false c_15
          have n_15 : ¬ (ct ≤ i) := fun h9 => c_15 ((le_nI (p := ct) (n := i) (by omega) (by omega)).mpr h9)
          obtain ⟨hq5, y9, hq6, hq7⟩ := s_rcE_in (i := i) (p := x) hf (by omega)
          refine ps_st (S' := (19, [(0, .ref ac), (1, .int (nI p)), (2, .int (nI x)), (3, .int (nI i))], [.ref ac], M1)) rfl rfl rfl ?_
          refine ps_get (S' := (22, [(0, .ref ac), (1, .int (nI p)), (2, .int (nI x)), (3, .int (nI i))], [.ref q], M1)) rfl hl_ac rfl rfl ?_
          refine ps_st (S' := (23, [(0, .ref ac), (1, .int (nI p)), (2, .int (nI x)), (3, .int (nI i))], [.ref ac, .ref q], M1)) rfl rfl rfl ?_
          refine ps_get (S' := (26, [(0, .ref ac), (1, .int (nI p)), (2, .int (nI x)), (3, .int (nI i))], [.ref b, .ref q], M1)) rfl hl_ac rfl rfl ?_
          refine ps_st (S' := (27, [(0, .ref ac), (1, .int (nI p)), (2, .int (nI x)), (3, .int (nI i))], [.int (nI x), .ref b, .ref q], M1)) rfl rfl rfl ?_
          refine pl_call (a := [.ref b, .int (nI x)]) (rest := [.ref q]) rfl rfl rfl (dk_u2 (f := f) (n := n) (b := b) (da := da) (p := x) hl_b hl_da (hn) (by omega)) (fun v1 M2 q3 => ?_)
          obtain ⟨rfl, rfl⟩ := q3
          show pl _ _ _ (30, [(0, .ref ac), (1, .int (nI p)), (2, .int (nI x)), (3, .int (nI i))], [.int (nI (by2 f x)), .ref q], M1) _
          have hu_27 := by2_lt f x
          refine pl_call (a := [.ref q, .int (nI (by2 f x))]) (rest := []) rfl rfl rfl (dy_isUnqualifiedName (f := f) (n := n) (N := N) (q := q) (E := E) (j := (by2 f x)) (hV1) (by2_lt _ _)) (fun v4 M5 q6 => ?_)
          obtain ⟨rfl, rfl⟩ := q6
          show pl _ _ _ (33, [(0, .ref ac), (1, .int (nI p)), (2, .int (nI x)), (3, .int (nI i))], [.int (nI (unqN (tX f n E (by2 f x))))], M1) _
          refine ps_if (S1 := (56, [(0, .ref ac), (1, .int (nI p))], [], M1)) (S2 := (36, [(0, .ref ac), (1, .int (nI p)), (2, .int (nI x)), (3, .int (nI i))], [], M1)) rfl rfl rfl (fun c_33 => ?_) (fun c_33 => ?_)
          · have c_33 : (nI (unqN (tX f n E (by2 f x)))) = 0 := of_decide_eq_true c_33
            have n_33 : unqN (tX f n E (by2 f x)) = 0 := (eq_nI (p := unqN (tX f n E (by2 f x))) (n := 0) (Nat.lt_trans (le1_unq _) (by decide)) (by decide)).mp c_33
            refine ps_st (S' := (57, [(0, .ref ac), (1, .int (nI p))], [.ref ac], M1)) rfl rfl rfl ?_
            refine ps_get (S' := (60, [(0, .ref ac), (1, .int (nI p))], [.ref vd], M1)) rfl hl_ac rfl rfl ?_
            refine ps_st (S' := (62, [(0, .ref ac), (1, .int (nI p))], [.int 37, .ref vd], M1)) rfl rfl rfl ?_
            refine ps_st (S' := (63, [(0, .ref ac), (1, .int (nI p))], [.int (nI p), .int 37, .ref vd], M1)) rfl rfl rfl ?_
            refine pl_call (a := [.ref vd, .int 37, .int (nI p)]) (rest := []) rfl rfl rfl (dk_wrong (vd := vd) (ru := ru) (wa := wa) (x1 := 37) (x2 := (nI p)) hl_vd) (fun v7 M8 q9 => ?_)
            obtain ⟨rfl, h10, f11⟩ := q9
            have h13 := (f11.1 ac (nin1 (ob_ne hl_ac hl_vd (by decide)))).trans hl_ac
            have h14 := (f11.1 b (nin1 (ob_ne hl_b hl_vd (by decide)))).trans hl_b
            have h15 := (f11.1 da (nin1 (Ne.symm (ob_ar hl_vd hl_da)))).trans hl_da
            have h16 := (f11.1 c (nin1 (ob_ne hl_c hl_vd (by decide)))).trans hl_c
            have hF17 := hF1.tr f11 (by simp)
            have hV18 := hV1.keep f11.gm (n7c hl_vd (by decide) (n7nil))
            show pl _ _ _ (66, [(0, .ref ac), (1, .int (nI p))], [.int 0], M8) _
            exact ps_ret rfl rfl (Or.inr ⟨(37, p), by
                rw [← hs, rcS_st (i := i) (by omega), if_pos (by omega)], rfl, h10, hF17⟩)
          · have c_33 : ¬ ((nI (unqN (tX f n E (by2 f x)))) = 0) := of_decide_eq_false c_33
            have n_33 : ¬ (unqN (tX f n E (by2 f x)) = 0) := fun h9 => c_33 ((eq_nI (p := unqN (tX f n E (by2 f x))) (n := 0) (Nat.lt_trans (le1_unq _) (by decide)) (by decide)).mpr h9)
            refine ps_st (S' := (37, [(0, .ref ac), (1, .int (nI p)), (2, .int (nI x)), (3, .int (nI i))], [.ref ac], M1)) rfl rfl rfl ?_
            refine ps_get (S' := (40, [(0, .ref ac), (1, .int (nI p)), (2, .int (nI x)), (3, .int (nI i))], [.ref q], M1)) rfl hl_ac rfl rfl ?_
            refine ps_st (S' := (41, [(0, .ref ac), (1, .int (nI p)), (2, .int (nI x)), (3, .int (nI i))], [.ref ac, .ref q], M1)) rfl rfl rfl ?_
            refine ps_get (S' := (44, [(0, .ref ac), (1, .int (nI p)), (2, .int (nI x)), (3, .int (nI i))], [.ref b, .ref q], M1)) rfl hl_ac rfl rfl ?_
            refine ps_st (S' := (45, [(0, .ref ac), (1, .int (nI p)), (2, .int (nI x)), (3, .int (nI i))], [.int (nI x), .ref b, .ref q], M1)) rfl rfl rfl ?_
            refine ps_st (S' := (46, [(0, .ref ac), (1, .int (nI p)), (2, .int (nI x)), (3, .int (nI i))], [.int 2, .int (nI x), .ref b, .ref q], M1)) rfl rfl rfl ?_
            refine ps_st (S' := (47, [(0, .ref ac), (1, .int (nI p)), (2, .int (nI x)), (3, .int (nI i))], [.int ((nI x) + 2), .ref b, .ref q], M1)) rfl rfl rfl ?_
            rw [nI_add1 (p := x) (k := 2) (x := 2) rfl (by omega)]
            show pl _ _ _ (_, [(0, .ref ac), (1, .int (nI p)), (2, .int (nI x)), (3, .int (nI i))], [.int (nI (x + 2)), .ref b, .ref q], M1) _
            refine pl_call (a := [.ref b, .int (nI (x + 2))]) (rest := [.ref q]) rfl rfl rfl (dk_u2 (f := f) (n := n) (b := b) (da := da) (p := (x + 2)) hl_b hl_da (hn) (by omega)) (fun v19 M20 q21 => ?_)
            obtain ⟨rfl, rfl⟩ := q21
            show pl _ _ _ (50, [(0, .ref ac), (1, .int (nI p)), (2, .int (nI x)), (3, .int (nI i))], [.int (nI (by2 f (x + 2))), .ref q], M1) _
            have hu_47 := by2_lt f (x + 2)
            refine pl_call (a := [.ref q, .int (nI (by2 f (x + 2)))]) (rest := []) rfl rfl rfl (dy_isFieldDescriptor (f := f) (n := n) (N := N) (q := q) (E := E) (j := (by2 f (x + 2))) (hV1) (by2_lt _ _)) (fun v22 M23 q24 => ?_)
            obtain ⟨rfl, rfl⟩ := q24
            show pl _ _ _ (53, [(0, .ref ac), (1, .int (nI p)), (2, .int (nI x)), (3, .int (nI i))], [.int (nI (fldN (tX f n E (by2 f (x + 2)))))], M1) _
            refine ps_if (S1 := (67, [(0, .ref ac), (1, .int (nI p)), (2, .int (nI x)), (3, .int (nI i))], [], M1)) (S2 := (56, [(0, .ref ac), (1, .int (nI p))], [], M1)) rfl rfl rfl (fun c_53 => ?_) (fun c_53 => ?_)
            · have c_53 : ¬ (nI (fldN (tX f n E (by2 f (x + 2))))) = 0 := of_decide_eq_true c_53
              have n_53 : ¬ (fldN (tX f n E (by2 f (x + 2))) = 0) := fun h9 => c_53 ((eq_nI (p := fldN (tX f n E (by2 f (x + 2)))) (n := 0) (Nat.lt_trans (le1_fld _) (by decide)) (by decide)).mpr h9)
              refine ps_st (S' := (68, [(0, .ref ac), (1, .int (nI p)), (2, .int (nI x)), (3, .int (nI i))], [.ref ac], M1)) rfl rfl rfl ?_
              refine ps_get (S' := (71, [(0, .ref ac), (1, .int (nI p)), (2, .int (nI x)), (3, .int (nI i))], [.ref b], M1)) rfl hl_ac rfl rfl ?_
              refine ps_st (S' := (72, [(0, .ref ac), (1, .int (nI p)), (2, .int (nI x)), (3, .int (nI i))], [.int (nI x), .ref b], M1)) rfl rfl rfl ?_
              refine ps_st (S' := (73, [(0, .ref ac), (1, .int (nI p)), (2, .int (nI x)), (3, .int (nI i))], [.int 4, .int (nI x), .ref b], M1)) rfl rfl rfl ?_
              refine ps_st (S' := (74, [(0, .ref ac), (1, .int (nI p)), (2, .int (nI x)), (3, .int (nI i))], [.int ((nI x) + 4), .ref b], M1)) rfl rfl rfl ?_
              rw [nI_add1 (p := x) (k := 4) (x := 4) rfl (by omega)]
              show pl _ _ _ (_, [(0, .ref ac), (1, .int (nI p)), (2, .int (nI x)), (3, .int (nI i))], [.int (nI (x + 4)), .ref b], M1) _
              refine pl_call (a := [.ref b, .int (nI (x + 4))]) (rest := []) rfl rfl rfl (dk_u2 (f := f) (n := n) (b := b) (da := da) (p := (x + 4)) hl_b hl_da (hn) (by omega)) (fun v25 M26 q27 => ?_)
              obtain ⟨rfl, rfl⟩ := q27
              show pl _ _ _ (77, [(0, .ref ac), (1, .int (nI p)), (2, .int (nI x)), (3, .int (nI i))], [.int (nI (by2 f (x + 4)))], M1) _
              have hu_74 := by2_lt f (x + 4)
              refine ps_st (S' := (79, [(4, .int (nI (by2 f (x + 4)))), (0, .ref ac), (1, .int (nI p)), (2, .int (nI x)), (3, .int (nI i))], [], M1)) rfl rfl rfl ?_
              refine ps_st (S' := (82, [(2, .int ((nI x) + 6)), (4, .int (nI (by2 f (x + 4)))), (0, .ref ac), (1, .int (nI p)), (3, .int (nI i))], [], M1)) rfl rfl rfl ?_
              rw [nI_add1 (p := x) (k := 6) (x := 6) rfl (by omega)]
              show pl _ _ _ (_, [(2, .int (nI (x + 6))), (4, .int (nI (by2 f (x + 4)))), (0, .ref ac), (1, .int (nI p)), (3, .int (nI i))], [], M1) _
              refine ps_st (S' := (83, [(2, .int (nI (x + 6))), (4, .int (nI (by2 f (x + 4)))), (0, .ref ac), (1, .int (nI p)), (3, .int (nI i))], [.int 0], M1)) rfl rfl rfl ?_
              refine ps_st (S' := (85, [(0, .ref ac), (1, .int (nI p)), (2, .int (nI (x + 6))), (3, .int (nI i)), (4, .int (nI (by2 f (x + 4)))), (5, .int 0)], [], M1)) rfl rfl rfl ?_
              exact ih.2 (i) (x) (0) (x + 6) (y9) M1 hl_ac hl_b hl_da hl_c hl_vd hV1 hF1 (by omega) (by omega) (hq6) (hq7) (by omega) (hs) (rfl)
            · have c_53 : ¬ (¬ (nI (fldN (tX f n E (by2 f (x + 2))))) = 0) := of_decide_eq_false c_53
              have n_53 : fldN (tX f n E (by2 f (x + 2))) = 0 := (eq_nI (p := fldN (tX f n E (by2 f (x + 2)))) (n := 0) (Nat.lt_trans (le1_fld _) (by decide)) (by decide)).mp (Decidable.not_not.mp c_53)
              refine ps_st (S' := (57, [(0, .ref ac), (1, .int (nI p))], [.ref ac], M1)) rfl rfl rfl ?_
              refine ps_get (S' := (60, [(0, .ref ac), (1, .int (nI p))], [.ref vd], M1)) rfl hl_ac rfl rfl ?_
              refine ps_st (S' := (62, [(0, .ref ac), (1, .int (nI p))], [.int 37, .ref vd], M1)) rfl rfl rfl ?_
              refine ps_st (S' := (63, [(0, .ref ac), (1, .int (nI p))], [.int (nI p), .int 37, .ref vd], M1)) rfl rfl rfl ?_
              refine pl_call (a := [.ref vd, .int 37, .int (nI p)]) (rest := []) rfl rfl rfl (dk_wrong (vd := vd) (ru := ru) (wa := wa) (x1 := 37) (x2 := (nI p)) hl_vd) (fun v28 M29 q30 => ?_)
              obtain ⟨rfl, h31, f32⟩ := q30
              have h34 := (f32.1 ac (nin1 (ob_ne hl_ac hl_vd (by decide)))).trans hl_ac
              have h35 := (f32.1 b (nin1 (ob_ne hl_b hl_vd (by decide)))).trans hl_b
              have h36 := (f32.1 da (nin1 (Ne.symm (ob_ar hl_vd hl_da)))).trans hl_da
              have h37 := (f32.1 c (nin1 (ob_ne hl_c hl_vd (by decide)))).trans hl_c
              have hF38 := hF1.tr f32 (by simp)
              have hV39 := hV1.keep f32.gm (n7c hl_vd (by decide) (n7nil))
              show pl _ _ _ (66, [(0, .ref ac), (1, .int (nI p))], [.int 0], M29) _
              exact ps_ret rfl rfl (Or.inr ⟨(37, p), by
                  rw [← hs, rcS_st (i := i) (by omega), if_pos (by omega)], rfl, h31, hF38⟩)
      · skip
        intro i x j y x9 M1 hl_ac hl_b hl_da hl_c hl_vd hV1 hF1 hi hj hg hf2 h37 hs hd
        have hu9 := by2_lt f (x + 4)
        refine ps_st1 (S' := (87, [(0, .ref ac), (1, .int (nI p)), (2, .int (nI y)), (3, .int (nI i)), (4, .int (nI (by2 f (x + 4)))), (5, .int (nI j))], [.int (nI j)], M1)) rfl rfl rfl ?_
        refine ps_st (S' := (89, [(0, .ref ac), (1, .int (nI p)), (2, .int (nI y)), (3, .int (nI i)), (4, .int (nI (by2 f (x + 4)))), (5, .int (nI j))], [.int (nI (by2 f (x + 4))), .int (nI j)], M1)) rfl rfl rfl ?_
        refine ps_if2 (S1 := (115, [(0, .ref ac), (1, .int (nI p)), (2, .int (nI y)), (3, .int (nI i)), (4, .int (nI (by2 f (x + 4)))), (5, .int (nI j))], [], M1)) (S2 := (92, [(0, .ref ac), (1, .int (nI p)), (2, .int (nI y)), (3, .int (nI i)), (4, .int (nI (by2 f (x + 4)))), (5, .int (nI j))], [], M1)) rfl rfl rfl (fun c_89 => ?_) (fun c_89 => ?_)
        · have c_89 : (nI (by2 f (x + 4))) ≤ (nI j) := of_decide_eq_true c_89
          have n_89 : by2 f (x + 4) ≤ j := (le_nI (p := by2 f (x + 4)) (n := j) (Nat.lt_trans (by2_lt _ _) (by decide)) (by omega)).mp c_89
          refine ps_st (S' := (118, [(3, .int ((nI i) + 1)), (0, .ref ac), (1, .int (nI p)), (2, .int (nI y)), (4, .int (nI (by2 f (x + 4)))), (5, .int (nI j))], [], M1)) rfl rfl rfl ?_
          rw [nI_add1 (p := i) (k := 1) (x := 1) rfl (by omega)]
          show pl _ _ _ (_, [(3, .int (nI (i + 1))), (0, .ref ac), (1, .int (nI p)), (2, .int (nI y)), (4, .int (nI (by2 f (x + 4)))), (5, .int (nI j))], [], M1) _
          refine ps_st (S' := (7, [(0, .ref ac), (1, .int (nI p)), (2, .int (nI y)), (3, .int (nI (i + 1)))], [], M1)) rfl rfl rfl ?_
          exact ih.1 (i + 1) (y) M1 hl_ac hl_b hl_da hl_c hl_vd hV1 hF1 (by omega) (by
              rw [show by2 f (x + 4) - j = 0 by omega] at hg
              have e9 : y = x9 := Option.some.inj (show some y = some x9 from hg)
              rw [e9]
              exact hf2) (by
              rw [← hs, rcS_st (i := i) (by omega), if_neg h37, ← hd, show by2 f (x + 4) - j = 0 by omega]
              rfl)
        · have c_89 : ¬ ((nI (by2 f (x + 4))) ≤ (nI j)) := of_decide_eq_false c_89
          have n_89 : ¬ (by2 f (x + 4) ≤ j) := fun h9 => c_89 ((le_nI (p := by2 f (x + 4)) (n := j) (Nat.lt_trans (by2_lt _ _) (by decide)) (by omega)).mpr h9)
          obtain ⟨hw5, hw6, hw7⟩ := s_atE_in (i := j) (p := y) hg (by omega)
          refine ps_st (S' := (93, [(0, .ref ac), (1, .int (nI p)), (2, .int (nI y)), (3, .int (nI i)), (4, .int (nI (by2 f (x + 4)))), (5, .int (nI j))], [.ref ac], M1)) rfl rfl rfl ?_
          refine ps_st (S' := (94, [(0, .ref ac), (1, .int (nI p)), (2, .int (nI y)), (3, .int (nI i)), (4, .int (nI (by2 f (x + 4)))), (5, .int (nI j))], [.int (nI y), .ref ac], M1)) rfl rfl rfl ?_
          refine ps_st (S' := (95, [(0, .ref ac), (1, .int (nI p)), (2, .int (nI y)), (3, .int (nI i)), (4, .int (nI (by2 f (x + 4)))), (5, .int (nI j))], [.int 0, .int (nI y), .ref ac], M1)) rfl rfl rfl ?_
          refine pl_call (a := [.ref ac, .int (nI y), .int 0]) (rest := []) rfl rfl rfl (dk_isNew0 (f := f) (n := n) (N := N) (q := q) (E := E) (ac := ac) (c := c) (b := b) (da := da) (vd := vd) (fr := fr) (mr := mr) (fa := fa) (ic := ic) (mj := mj) (na := na) (pa := pa) (mi := mi) (ru := ru) (wa := wa) (s1 := s1) (k1 := k1) (k2 := k2) (k3 := k3) (k4 := k4) (k5 := k5) (k6 := k6) (k7 := (nI ct)) (p := y) hl_ac hl_b hl_da hl_vd (hn) (by omega) (hV1)) (fun v40 M41 q42 => ?_)
          rcases q42 with q42 | q42
          · skip
            obtain ⟨q95_s, rfl, h43, f44⟩ := q42
            have h46 := (f44.1 ac (nin1 (ob_ne hl_ac hl_vd (by decide)))).trans hl_ac
            have h47 := (f44.1 b (nin1 (ob_ne hl_b hl_vd (by decide)))).trans hl_b
            have h48 := (f44.1 da (nin1 (Ne.symm (ob_ar hl_vd hl_da)))).trans hl_da
            have h49 := (f44.1 c (nin1 (ob_ne hl_c hl_vd (by decide)))).trans hl_c
            have hF50 := hF1.tr f44 (by simp)
            have hV51 := hV1.keep f44.gm (n7c hl_vd (by decide) (n7nil))
            show pl _ _ _ (98, [(0, .ref ac), (1, .int (nI p)), (2, .int (nI y)), (3, .int (nI i)), (4, .int (nI (by2 f (x + 4)))), (5, .int (nI j))], [.int 0], M41) _
            refine ps_if (S1 := (103, [(0, .ref ac), (1, .int (nI p)), (2, .int (nI y)), (3, .int (nI i)), (4, .int (nI (by2 f (x + 4)))), (5, .int (nI j))], [], M41)) (S2 := (101, [(0, .ref ac), (1, .int (nI p)), (2, .int (nI y)), (3, .int (nI i)), (4, .int (nI (by2 f (x + 4)))), (5, .int (nI j))], [], M41)) rfl rfl rfl (fun c_98 => ?_) (fun c_98 => ?_)
            · exact absurd (of_decide_eq_true c_98) (by decide)
            refine ps_st (S' := (102, [(0, .ref ac), (1, .int (nI p)), (2, .int (nI y)), (3, .int (nI i)), (4, .int (nI (by2 f (x + 4)))), (5, .int (nI j))], [.int 0], M41)) rfl rfl rfl ?_
            exact ps_ret rfl rfl (Or.inr ⟨(28, y), by
                rw [← hs, rcS_st (i := i) (by omega), if_neg h37, ← hd, rcA_st (i := j) (by omega), if_pos (by omega)], rfl, h43, hF50⟩)
          · skip
            obtain ⟨q95_s, rfl, h52, f53⟩ := q42
            have h55 := (f53.1 ac (nin1 (ob_ne hl_ac hl_vd (by decide)))).trans hl_ac
            have h56 := (f53.1 b (nin1 (ob_ne hl_b hl_vd (by decide)))).trans hl_b
            have h57 := (f53.1 da (nin1 (Ne.symm (ob_ar hl_vd hl_da)))).trans hl_da
            have h58 := (f53.1 c (nin1 (ob_ne hl_c hl_vd (by decide)))).trans hl_c
            have hF59 := hF1.tr f53 (by simp)
            have hV60 := hV1.keep f53.gm (n7c hl_vd (by decide) (n7nil))
            show pl _ _ _ (98, [(0, .ref ac), (1, .int (nI p)), (2, .int (nI y)), (3, .int (nI i)), (4, .int (nI (by2 f (x + 4)))), (5, .int (nI j))], [.int 1], M41) _
            refine ps_if (S1 := (103, [(0, .ref ac), (1, .int (nI p)), (2, .int (nI y)), (3, .int (nI i)), (4, .int (nI (by2 f (x + 4)))), (5, .int (nI j))], [], M41)) (S2 := (101, [(0, .ref ac), (1, .int (nI p)), (2, .int (nI y)), (3, .int (nI i)), (4, .int (nI (by2 f (x + 4)))), (5, .int (nI j))], [], M41)) rfl rfl rfl (fun c_98 => ?_) (fun c_98 => ?_)
            rotate_left
            · exact absurd (by decide) (of_decide_eq_false c_98)
            refine ps_st (S' := (104, [(0, .ref ac), (1, .int (nI p)), (2, .int (nI y)), (3, .int (nI i)), (4, .int (nI (by2 f (x + 4)))), (5, .int (nI j))], [.ref ac], M41)) rfl rfl rfl ?_
            refine ps_st (S' := (105, [(0, .ref ac), (1, .int (nI p)), (2, .int (nI y)), (3, .int (nI i)), (4, .int (nI (by2 f (x + 4)))), (5, .int (nI j))], [.int (nI y), .ref ac], M41)) rfl rfl rfl ?_
            refine pl_call (a := [.ref ac, .int (nI y)]) (rest := []) rfl rfl rfl (dk_behind (f := f) (n := n) (q := q) (ac := ac) (c := c) (b := b) (da := da) (vd := vd) (s1 := s1) (p := y) h55 h56 h57 (hn) (by omega)) (fun v61 M62 q63 => ?_)
            obtain ⟨rfl, rfl⟩ := q63
            show pl _ _ _ (108, [(0, .ref ac), (1, .int (nI p)), (2, .int (nI y)), (3, .int (nI i)), (4, .int (nI (by2 f (x + 4)))), (5, .int (nI j))], [.int (nI (y + 6 + by4 f (y + 2)))], M41) _
            refine ps_st (S' := (109, [(2, .int (nI (y + 6 + by4 f (y + 2)))), (0, .ref ac), (1, .int (nI p)), (3, .int (nI i)), (4, .int (nI (by2 f (x + 4)))), (5, .int (nI j))], [], M41)) rfl rfl rfl ?_
            refine ps_st (S' := (112, [(5, .int ((nI j) + 1)), (2, .int (nI (y + 6 + by4 f (y + 2)))), (0, .ref ac), (1, .int (nI p)), (3, .int (nI i)), (4, .int (nI (by2 f (x + 4))))], [], M41)) rfl rfl rfl ?_
            rw [nI_add1 (p := j) (k := 1) (x := 1) rfl (by omega)]
            show pl _ _ _ (_, [(5, .int (nI (j + 1))), (2, .int (nI (y + 6 + by4 f (y + 2)))), (0, .ref ac), (1, .int (nI p)), (3, .int (nI i)), (4, .int (nI (by2 f (x + 4))))], [], M41) _
            refine ps_st (S' := (85, [(0, .ref ac), (1, .int (nI p)), (2, .int (nI (y + 6 + by4 f (y + 2)))), (3, .int (nI i)), (4, .int (nI (by2 f (x + 4)))), (5, .int (nI (j + 1)))], [], M41)) rfl rfl rfl ?_
            exact ih.2 (i) (x) (j + 1) (y + 6 + by4 f (y + 2)) (x9) M41 h55 h56 h57 h58 h52 hV60 hF59 (hi) (by omega) (hw7) (hf2) (h37) (hs) (by
                rw [← hd, rcA_st (i := j) (by omega), if_neg (by omega)])
  refine ps_st (S' := (1, [(0, .ref ac), (1, .int (nI p))], [.int (nI p)], M)) rfl rfl rfl ?_
  refine ps_st (S' := (3, [(0, .ref ac), (1, .int (nI p))], [.int 8, .int (nI p)], M)) rfl rfl rfl ?_
  refine ps_st (S' := (4, [(0, .ref ac), (1, .int (nI p))], [.int ((nI p) + 8)], M)) rfl rfl rfl ?_
  rw [nI_add1 (p := p) (k := 8) (x := 8) rfl (by omega)]
  show pl _ _ _ (_, [(0, .ref ac), (1, .int (nI p))], [.int (nI (p + 8))], M) _
  refine ps_st (S' := (5, [(2, .int (nI (p + 8))), (0, .ref ac), (1, .int (nI p))], [], M)) rfl rfl rfl ?_
  refine ps_st (S' := (6, [(2, .int (nI (p + 8))), (0, .ref ac), (1, .int (nI p))], [.int 0], M)) rfl rfl rfl ?_
  refine ps_st (S' := (7, [(0, .ref ac), (1, .int (nI p)), (2, .int (nI (p + 8))), (3, .int 0)], [], M)) rfl rfl rfl ?_
  exact (LL kf).1 (0) (p + 8) M h_ac h_b h_da h_c h_vd hV hF (by omega) (hf0) (rfl)
set_option maxHeartbeats 1000000 in
theorem dk_brokenRule2 {g : xe_G} {M : mi_H} {f : Nat → Int32} {n N q : Nat} {E : List (Nat × Nat)} {ac c b da vd fr mr fa ic mj na pa : Nat} {mi ru wa k1 k7 : Int32} {k p e s bc bp i4 i5 i6 : Nat} (h_ac : M.1 ac = some (ob 0 [.ref c, .ref b, .ref q, .ref vd, .int (nI s)])) (h_b : M.1 b = some (ob 1 [.ref da])) (h_da : M.1 da = some (ar .byte n f)) (h_c : M.1 c = some (ob 3 [.ref b, .ref q, .int mi, .int (nI mj), .int (nI fa), .int (nI ic), .ref fr, .ref mr, .int (nI na), .int (nI pa), .int k1, .int (nI bc), .int (nI bp), .int (nI i4), .int (nI i5), .int (nI i6), .int k7])) (h_vd : M.1 vd = some (ob 10 [.int ru, .int wa])) (hn : n ≤ 65540) (hmj : mj < 65536) (hfa : fa + 8 ≤ n) (hs : s < 2048) (hk : k < 11) (he : e ≤ n) (hp : p < 70000) (hfe : ¬ k = 0 → s_fe f k (p + 6) e = some e) (hV : PV g f n N E q M) : pt (mT g) 26 [.ref ac, .int (nI k), .int (nI p)] M (fun v M' => ((brS f n E (by2 f fa) k p s = none) ∧ v = some (.int 0) ∧ M'.1 vd = some (ob 10 [.int ru, .int wa]) ∧ M'.1 c = some (ob 3 [.ref b, .ref q, .int mi, .int (nI mj), .int (nI fa), .int (nI ic), .ref fr, .ref mr, .int (nI na), .int (nI pa), .int k1, .int (nI (if k = 6 then by2 f (p + 6) else bc)), .int (nI (if k = 6 then p + 8 else bp)), .int (nI (if k = 5 then by2 f (p + 6) else i4)), .int (nI (if k = 8 then by2 f (p + 6) else i5)), .int (nI (if k = 10 then by2 f (p + 6) else i6)), .int (if k = 9 then (nI (by2 f (p + 6))) else k7)]) ∧ fm [c, vd] M M') ∨ (∃ (r9 : Nat), (brS f n E (by2 f fa) k p s = some (.inl r9)) ∧ (0 < r9 ∧ r9 < 100) ∧ v = some (.int (nI r9)) ∧ M'.1 vd = some (ob 10 [.int ru, .int wa]) ∧ fm [c, vd] M M') ∨ (∃ (e9 : Nat × Nat), (brS f n E (by2 f fa) k p s = some (.inr e9)) ∧ v = some (.int (-1)) ∧ M'.1 vd = some (ob 10 [.int (nI e9.1), .int (nI e9.2)]) ∧ fm [c, vd] M M')) := by
  refine pt_in (b := mb_26 g) rfl (fun kf => ?_)
  show pl (mT g) kf (mb_26 g).2 (0, [(0, .ref ac), (1, .int (nI k)), (2, .int (nI p))], [], M) _
  have hF : fm [c, vd] M M := fm.rf
  refine ps_st (S' := (1, [(0, .ref ac), (1, .int (nI k)), (2, .int (nI p))], [.int (nI k)], M)) rfl rfl rfl ?_
  refine pl_sw rfl (fun t_1 et_1 => ?_)
  have ht_1 : t_1 ∈ [40, 73, 112, 154, 199, 231, 274] := mi_sw_sub et_1 (by decide)
  simp only [List.mem_cons, List.not_mem_nil, or_false] at ht_1
  rcases ht_1 with rfl | rfl | rfl | rfl | rfl | rfl | rfl
  · show pl _ _ _ (40, [(0, .ref ac), (1, .int (nI k)), (2, .int (nI p))], [], M) _
    have m_1 := sw_nat (t := k) (by omega) et_1
    simp at m_1
    have hb8 := s_fe_in (hfe (by omega))
    have hb7 := hb8.1
    have hb9 := hb8.2.2.2.1 (by omega)
    refine ps_st (S' := (41, [(0, .ref ac), (1, .int (nI k)), (2, .int (nI p))], [.ref ac], M)) rfl rfl rfl ?_
    refine ps_get (S' := (44, [(0, .ref ac), (1, .int (nI k)), (2, .int (nI p))], [.ref c], M)) rfl h_ac rfl rfl ?_
    refine ps_st (S' := (45, [(0, .ref ac), (1, .int (nI k)), (2, .int (nI p))], [.ref ac, .ref c], M)) rfl rfl rfl ?_
    refine ps_get (S' := (48, [(0, .ref ac), (1, .int (nI k)), (2, .int (nI p))], [.ref b, .ref c], M)) rfl h_ac rfl rfl ?_
    refine ps_st (S' := (49, [(0, .ref ac), (1, .int (nI k)), (2, .int (nI p))], [.int (nI p), .ref b, .ref c], M)) rfl rfl rfl ?_
    refine ps_st (S' := (51, [(0, .ref ac), (1, .int (nI k)), (2, .int (nI p))], [.int 6, .int (nI p), .ref b, .ref c], M)) rfl rfl rfl ?_
    refine ps_st (S' := (52, [(0, .ref ac), (1, .int (nI k)), (2, .int (nI p))], [.int ((nI p) + 6), .ref b, .ref c], M)) rfl rfl rfl ?_
    rw [nI_add1 (p := p) (k := 6) (x := 6) rfl (by omega)]
    show pl _ _ _ (_, [(0, .ref ac), (1, .int (nI k)), (2, .int (nI p))], [.int (nI (p + 6)), .ref b, .ref c], M) _
    refine pl_call (a := [.ref b, .int (nI (p + 6))]) (rest := [.ref c]) rfl rfl rfl (dk_u2 (f := f) (n := n) (b := b) (da := da) (p := (p + 6)) h_b h_da (hn) (by omega)) (fun v1 M2 q3 => ?_)
    obtain ⟨rfl, rfl⟩ := q3
    show pl _ _ _ (55, [(0, .ref ac), (1, .int (nI k)), (2, .int (nI p))], [.int (nI (by2 f (p + 6))), .ref c], M) _
    have hu_52 := by2_lt f (p + 6)
    refine ps_put (l' := [.ref b, .ref q, .int mi, .int (nI mj), .int (nI fa), .int (nI ic), .ref fr, .ref mr, .int (nI na), .int (nI pa), .int k1, .int (nI bc), .int (nI bp), .int (nI (by2 f (p + 6))), .int (nI i5), .int (nI i6), .int k7]) rfl h_c rfl rfl (fun M4 h5 f6 z7 => ?_)
    have h8 := (f6 ac (ob_ne h_ac h_c (by decide))).trans h_ac
    have h9 := (f6 b (ob_ne h_b h_c (by decide))).trans h_b
    have h10 := (f6 da (Ne.symm (ob_ar h_c h_da))).trans h_da
    have h11 := (f6 vd (ob_ne h_vd h_c (by decide))).trans h_vd
    have hV12 := hV.put h_c (by decide) f6 z7
    have hF13 := hF.up (by simp) f6 z7
    show pl _ _ _ (58, [(0, .ref ac), (1, .int (nI k)), (2, .int (nI p))], [], M4) _
    refine ps_st (S' := (59, [(0, .ref ac), (1, .int (nI k)), (2, .int (nI p))], [.ref ac], M4)) rfl rfl rfl ?_
    refine ps_st (S' := (60, [(0, .ref ac), (1, .int (nI k)), (2, .int (nI p))], [.int (nI p), .ref ac], M4)) rfl rfl rfl ?_
    refine pl_call (a := [.ref ac, .int (nI p)]) (rest := []) rfl rfl rfl (dk_innerClassesHold (f := f) (n := n) (N := N) (q := q) (E := E) (ac := ac) (c := c) (b := b) (da := da) (vd := vd) (fr := fr) (mr := mr) (fa := fa) (ic := ic) (mj := mj) (na := na) (pa := pa) (mi := mi) (ru := ru) (wa := wa) (s1 := (nI s)) (k1 := k1) (k2 := (nI bc)) (k3 := (nI bp)) (k4 := 0) (k5 := (nI i5)) (k6 := (nI i6)) (k7 := k7) (p := p) (ct := (by2 f (p + 6))) h8 h9 h10 h5 (hn) (by2_lt _ _) (by omega) (hV12)) (fun v14 M15 q16 => ?_)
    obtain ⟨rfl, rfl⟩ := q16
    show pl _ _ _ (63, [(0, .ref ac), (1, .int (nI k)), (2, .int (nI p))], [.int (nI (inA f E (p + 8) (by2 f (p + 6)) 0))], M4) _
    refine ps_if (S1 := (70, [(0, .ref ac), (1, .int (nI k)), (2, .int (nI p))], [], M4)) (S2 := (66, [(0, .ref ac), (1, .int (nI k)), (2, .int (nI p))], [], M4)) rfl rfl rfl (fun c_63 => ?_) (fun c_63 => ?_)
    · have c_63 : (nI (inA f E (p + 8) (by2 f (p + 6)) 0)) = 0 := of_decide_eq_true c_63
      have n_63 : inA f E (p + 8) (by2 f (p + 6)) 0 = 0 := (eq_nI (p := inA f E (p + 8) (by2 f (p + 6)) 0) (n := 0) (Nat.lt_trans (le1_in _ _ _ _ _) (by decide)) (by decide)).mp c_63
      refine ps_st (S' := (72, [], [.int 33], M4)) rfl rfl rfl ?_
      exact ps_ret rfl rfl (Or.inr (Or.inl ⟨33, by
          unfold brS
          first | ((repeat first | rw [if_pos (by omega)] | rw [if_neg (by omega)]) <;> first | rfl | omega) | ((repeat' split) <;> first | rfl | (exfalso; omega) | omega), by decide, rfl, h11, hF13⟩))
    · have c_63 : ¬ ((nI (inA f E (p + 8) (by2 f (p + 6)) 0)) = 0) := of_decide_eq_false c_63
      have n_63 : ¬ (inA f E (p + 8) (by2 f (p + 6)) 0 = 0) := fun h9 => c_63 ((eq_nI (p := inA f E (p + 8) (by2 f (p + 6)) 0) (n := 0) (Nat.lt_trans (le1_in _ _ _ _ _) (by decide)) (by decide)).mpr h9)
      refine ps_st (S' := (67, [(0, .ref ac), (1, .int (nI k)), (2, .int (nI p))], [.int 0], M4)) rfl rfl rfl ?_
      refine ps_st (S' := (72, [], [.int 0], M4)) rfl rfl rfl ?_
      exact ps_ret rfl rfl (Or.inl ⟨by
          unfold brS
          first | ((repeat first | rw [if_pos (by omega)] | rw [if_neg (by omega)]) <;> first | rfl | omega) | ((repeat' split) <;> first | rfl | (exfalso; omega) | omega), rfl, h11, by rw [if_neg (show ¬ k = 6 by omega), if_neg (show ¬ k = 6 by omega), if_pos (show k = 5 by omega), if_neg (show ¬ k = 8 by omega), if_neg (show ¬ k = 10 by omega), if_neg (show ¬ k = 9 by omega)]; exact h5, hF13⟩)
  · show pl _ _ _ (73, [(0, .ref ac), (1, .int (nI k)), (2, .int (nI p))], [], M) _
    have m_1 := sw_nat (t := k) (by omega) et_1
    simp at m_1
    have hb8 := s_fe_in (hfe (by omega))
    have hb7 := hb8.1
    have hb9 := hb8.2.1 (by omega)
    refine ps_st (S' := (74, [(0, .ref ac), (1, .int (nI k)), (2, .int (nI p))], [.ref ac], M)) rfl rfl rfl ?_
    refine ps_get (S' := (77, [(0, .ref ac), (1, .int (nI k)), (2, .int (nI p))], [.ref q], M)) rfl h_ac rfl rfl ?_
    refine ps_st (S' := (78, [(0, .ref ac), (1, .int (nI k)), (2, .int (nI p))], [.ref ac, .ref q], M)) rfl rfl rfl ?_
    refine ps_get (S' := (81, [(0, .ref ac), (1, .int (nI k)), (2, .int (nI p))], [.ref b, .ref q], M)) rfl h_ac rfl rfl ?_
    refine ps_st (S' := (82, [(0, .ref ac), (1, .int (nI k)), (2, .int (nI p))], [.int (nI p), .ref b, .ref q], M)) rfl rfl rfl ?_
    refine ps_st (S' := (84, [(0, .ref ac), (1, .int (nI k)), (2, .int (nI p))], [.int 6, .int (nI p), .ref b, .ref q], M)) rfl rfl rfl ?_
    refine ps_st (S' := (85, [(0, .ref ac), (1, .int (nI k)), (2, .int (nI p))], [.int ((nI p) + 6), .ref b, .ref q], M)) rfl rfl rfl ?_
    rw [nI_add1 (p := p) (k := 6) (x := 6) rfl (by omega)]
    show pl _ _ _ (_, [(0, .ref ac), (1, .int (nI k)), (2, .int (nI p))], [.int (nI (p + 6)), .ref b, .ref q], M) _
    refine pl_call (a := [.ref b, .int (nI (p + 6))]) (rest := [.ref q]) rfl rfl rfl (dk_u2 (f := f) (n := n) (b := b) (da := da) (p := (p + 6)) h_b h_da (hn) (by omega)) (fun v17 M18 q19 => ?_)
    obtain ⟨rfl, rfl⟩ := q19
    show pl _ _ _ (88, [(0, .ref ac), (1, .int (nI k)), (2, .int (nI p))], [.int (nI (by2 f (p + 6))), .ref q], M) _
    have hu_85 := by2_lt f (p + 6)
    refine pl_call (a := [.ref q, .int (nI (by2 f (p + 6)))]) (rest := []) rfl rfl rfl (dy_tagOf (f := f) (n := n) (N := N) (q := q) (E := E) (j := (by2 f (p + 6))) (hV) (by2_lt _ _)) (fun v20 M21 q22 => ?_)
    obtain ⟨rfl, rfl⟩ := q22
    show pl _ _ _ (91, [(0, .ref ac), (1, .int (nI k)), (2, .int (nI p))], [.int (nI (tg f E (by2 f (p + 6))))], M) _
    refine ps_st (S' := (93, [(0, .ref ac), (1, .int (nI k)), (2, .int (nI p))], [.int 7, .int (nI (tg f E (by2 f (p + 6))))], M)) rfl rfl rfl ?_
    refine ps_if2 (S1 := (109, [], [], M)) (S2 := (96, [(0, .ref ac), (1, .int (nI k)), (2, .int (nI p))], [], M)) rfl rfl rfl (fun c_93 => ?_) (fun c_93 => ?_)
    · have c_93 : ¬ (nI (tg f E (by2 f (p + 6)))) = 7 := of_decide_eq_true c_93
      have n_93 : ¬ (tg f E (by2 f (p + 6)) = 7) := fun h9 => c_93 ((eq_nI (p := tg f E (by2 f (p + 6))) (n := 7) (Nat.lt_trans (tg_lt _ _ _) (by decide)) (by decide)).mpr h9)
      refine ps_st (S' := (111, [], [.int 34], M)) rfl rfl rfl ?_
      exact ps_ret rfl rfl (Or.inr (Or.inl ⟨34, by
          unfold brS
          first | ((repeat first | rw [if_pos (by omega)] | rw [if_neg (by omega)]) <;> first | rfl | omega) | ((repeat' split) <;> first | rfl | (exfalso; omega) | omega), by decide, rfl, h_vd, hF⟩))
    · have c_93 : ¬ (¬ (nI (tg f E (by2 f (p + 6)))) = 7) := of_decide_eq_false c_93
      have n_93 : tg f E (by2 f (p + 6)) = 7 := (eq_nI (p := tg f E (by2 f (p + 6))) (n := 7) (Nat.lt_trans (tg_lt _ _ _) (by decide)) (by decide)).mp (Decidable.not_not.mp c_93)
      refine ps_st (S' := (97, [(0, .ref ac), (1, .int (nI k)), (2, .int (nI p))], [.ref ac], M)) rfl rfl rfl ?_
      refine ps_st (S' := (99, [(0, .ref ac), (1, .int (nI k)), (2, .int (nI p))], [.int 8, .ref ac], M)) rfl rfl rfl ?_
      refine pl_call (a := [.ref ac, .int 8]) (rest := []) rfl rfl rfl (dk_hasSeen (q := q) (ac := ac) (c := c) (b := b) (vd := vd) (s := s) (k := 8) h_ac (by omega) (by omega)) (fun v23 M24 q25 => ?_)
      obtain ⟨rfl, rfl⟩ := q25
      show pl _ _ _ (102, [(0, .ref ac), (1, .int (nI k)), (2, .int (nI p))], [.int (nI (sb s 8))], M) _
      refine ps_if (S1 := (109, [], [], M)) (S2 := (105, [(0, .ref ac), (1, .int (nI k)), (2, .int (nI p))], [], M)) rfl rfl rfl (fun c_102 => ?_) (fun c_102 => ?_)
      · have c_102 : ¬ (nI (sb s 8)) = 0 := of_decide_eq_true c_102
        have n_102 : ¬ (sb s 8 = 0) := fun h9 => c_102 ((eq_nI (p := sb s 8) (n := 0) (Nat.lt_trans (sb_lt _ _) (by decide)) (by decide)).mpr h9)
        refine ps_st (S' := (111, [], [.int 34], M)) rfl rfl rfl ?_
        exact ps_ret rfl rfl (Or.inr (Or.inl ⟨34, by
            unfold brS
            first | ((repeat first | rw [if_pos (by omega)] | rw [if_neg (by omega)]) <;> first | rfl | omega) | ((repeat' split) <;> first | rfl | (exfalso; omega) | omega), by decide, rfl, h_vd, hF⟩))
      · have c_102 : ¬ (¬ (nI (sb s 8)) = 0) := of_decide_eq_false c_102
        have n_102 : sb s 8 = 0 := (eq_nI (p := sb s 8) (n := 0) (Nat.lt_trans (sb_lt _ _) (by decide)) (by decide)).mp (Decidable.not_not.mp c_102)
        refine ps_st (S' := (106, [(0, .ref ac), (1, .int (nI k)), (2, .int (nI p))], [.int 0], M)) rfl rfl rfl ?_
        refine ps_st (S' := (111, [], [.int 0], M)) rfl rfl rfl ?_
        exact ps_ret rfl rfl (Or.inl ⟨by
            unfold brS
            first | ((repeat first | rw [if_pos (by omega)] | rw [if_neg (by omega)]) <;> first | rfl | omega) | ((repeat' split) <;> first | rfl | (exfalso; omega) | omega), rfl, h_vd, by rw [if_neg (show ¬ k = 6 by omega), if_neg (show ¬ k = 6 by omega), if_neg (show ¬ k = 5 by omega), if_neg (show ¬ k = 8 by omega), if_neg (show ¬ k = 10 by omega), if_neg (show ¬ k = 9 by omega)]; exact h_c, hF⟩)
  · show pl _ _ _ (112, [(0, .ref ac), (1, .int (nI k)), (2, .int (nI p))], [], M) _
    have m_1 := sw_nat (t := k) (by omega) et_1
    simp at m_1
    have hb8 := s_fe_in (hfe (by omega))
    have hb7 := hb8.1
    have hb9 := hb8.2.2.1 (by omega)
    refine ps_st (S' := (113, [(0, .ref ac), (1, .int (nI k)), (2, .int (nI p))], [.ref ac], M)) rfl rfl rfl ?_
    refine ps_get (S' := (116, [(0, .ref ac), (1, .int (nI k)), (2, .int (nI p))], [.ref c], M)) rfl h_ac rfl rfl ?_
    refine ps_st (S' := (117, [(0, .ref ac), (1, .int (nI k)), (2, .int (nI p))], [.ref ac, .ref c], M)) rfl rfl rfl ?_
    refine ps_get (S' := (120, [(0, .ref ac), (1, .int (nI k)), (2, .int (nI p))], [.ref b, .ref c], M)) rfl h_ac rfl rfl ?_
    refine ps_st (S' := (121, [(0, .ref ac), (1, .int (nI k)), (2, .int (nI p))], [.int (nI p), .ref b, .ref c], M)) rfl rfl rfl ?_
    refine ps_st (S' := (123, [(0, .ref ac), (1, .int (nI k)), (2, .int (nI p))], [.int 6, .int (nI p), .ref b, .ref c], M)) rfl rfl rfl ?_
    refine ps_st (S' := (124, [(0, .ref ac), (1, .int (nI k)), (2, .int (nI p))], [.int ((nI p) + 6), .ref b, .ref c], M)) rfl rfl rfl ?_
    rw [nI_add1 (p := p) (k := 6) (x := 6) rfl (by omega)]
    show pl _ _ _ (_, [(0, .ref ac), (1, .int (nI k)), (2, .int (nI p))], [.int (nI (p + 6)), .ref b, .ref c], M) _
    refine pl_call (a := [.ref b, .int (nI (p + 6))]) (rest := [.ref c]) rfl rfl rfl (dk_u2 (f := f) (n := n) (b := b) (da := da) (p := (p + 6)) h_b h_da (hn) (by omega)) (fun v26 M27 q28 => ?_)
    obtain ⟨rfl, rfl⟩ := q28
    show pl _ _ _ (127, [(0, .ref ac), (1, .int (nI k)), (2, .int (nI p))], [.int (nI (by2 f (p + 6))), .ref c], M) _
    have hu_124 := by2_lt f (p + 6)
    refine ps_put (l' := [.ref b, .ref q, .int mi, .int (nI mj), .int (nI fa), .int (nI ic), .ref fr, .ref mr, .int (nI na), .int (nI pa), .int k1, .int (nI bc), .int (nI bp), .int (nI i4), .int (nI (by2 f (p + 6))), .int (nI i6), .int k7]) rfl h_c rfl rfl (fun M29 h30 f31 z32 => ?_)
    have h33 := (f31 ac (ob_ne h_ac h_c (by decide))).trans h_ac
    have h34 := (f31 b (ob_ne h_b h_c (by decide))).trans h_b
    have h35 := (f31 da (Ne.symm (ob_ar h_c h_da))).trans h_da
    have h36 := (f31 vd (ob_ne h_vd h_c (by decide))).trans h_vd
    have hV37 := hV.put h_c (by decide) f31 z32
    have hF38 := hF.up (by simp) f31 z32
    show pl _ _ _ (130, [(0, .ref ac), (1, .int (nI k)), (2, .int (nI p))], [], M29) _
    refine ps_st (S' := (131, [(0, .ref ac), (1, .int (nI k)), (2, .int (nI p))], [.ref ac], M29)) rfl rfl rfl ?_
    refine ps_st (S' := (132, [(0, .ref ac), (1, .int (nI k)), (2, .int (nI p))], [.int (nI p), .ref ac], M29)) rfl rfl rfl ?_
    refine pl_call (a := [.ref ac, .int (nI p)]) (rest := []) rfl rfl rfl (dk_areClasses (f := f) (n := n) (N := N) (q := q) (E := E) (ac := ac) (c := c) (b := b) (da := da) (vd := vd) (fr := fr) (mr := mr) (fa := fa) (ic := ic) (mj := mj) (na := na) (pa := pa) (mi := mi) (ru := ru) (wa := wa) (s1 := (nI s)) (k1 := k1) (k2 := (nI bc)) (k3 := (nI bp)) (k4 := (nI i4)) (k5 := (nI (by2 f (p + 6)))) (k6 := (nI i6)) (k7 := k7) (p := p) h33 h34 h35 (hn) (by omega) (hV37)) (fun v39 M40 q41 => ?_)
    obtain ⟨rfl, rfl⟩ := q41
    show pl _ _ _ (135, [(0, .ref ac), (1, .int (nI k)), (2, .int (nI p))], [.int (nI (clA f E (p + 8) (by2 f (p + 6)) 0))], M29) _
    refine ps_if (S1 := (151, [], [], M29)) (S2 := (138, [(0, .ref ac), (1, .int (nI k)), (2, .int (nI p))], [], M29)) rfl rfl rfl (fun c_135 => ?_) (fun c_135 => ?_)
    · have c_135 : (nI (clA f E (p + 8) (by2 f (p + 6)) 0)) = 0 := of_decide_eq_true c_135
      have n_135 : clA f E (p + 8) (by2 f (p + 6)) 0 = 0 := (eq_nI (p := clA f E (p + 8) (by2 f (p + 6)) 0) (n := 0) (Nat.lt_trans (le1_cl _ _ _ _ _) (by decide)) (by decide)).mp c_135
      refine ps_st (S' := (153, [], [.int 35], M29)) rfl rfl rfl ?_
      exact ps_ret rfl rfl (Or.inr (Or.inl ⟨35, by
          unfold brS
          first | ((repeat first | rw [if_pos (by omega)] | rw [if_neg (by omega)]) <;> first | rfl | omega) | ((repeat' split) <;> first | rfl | (exfalso; omega) | omega), by decide, rfl, h36, hF38⟩))
    · have c_135 : ¬ ((nI (clA f E (p + 8) (by2 f (p + 6)) 0)) = 0) := of_decide_eq_false c_135
      have n_135 : ¬ (clA f E (p + 8) (by2 f (p + 6)) 0 = 0) := fun h9 => c_135 ((eq_nI (p := clA f E (p + 8) (by2 f (p + 6)) 0) (n := 0) (Nat.lt_trans (le1_cl _ _ _ _ _) (by decide)) (by decide)).mpr h9)
      refine ps_st (S' := (139, [(0, .ref ac), (1, .int (nI k)), (2, .int (nI p))], [.ref ac], M29)) rfl rfl rfl ?_
      refine ps_st (S' := (141, [(0, .ref ac), (1, .int (nI k)), (2, .int (nI p))], [.int 7, .ref ac], M29)) rfl rfl rfl ?_
      refine pl_call (a := [.ref ac, .int 7]) (rest := []) rfl rfl rfl (dk_hasSeen (q := q) (ac := ac) (c := c) (b := b) (vd := vd) (s := s) (k := 7) h33 (by omega) (by omega)) (fun v42 M43 q44 => ?_)
      obtain ⟨rfl, rfl⟩ := q44
      show pl _ _ _ (144, [(0, .ref ac), (1, .int (nI k)), (2, .int (nI p))], [.int (nI (sb s 7))], M29) _
      refine ps_if (S1 := (151, [], [], M29)) (S2 := (147, [(0, .ref ac), (1, .int (nI k)), (2, .int (nI p))], [], M29)) rfl rfl rfl (fun c_144 => ?_) (fun c_144 => ?_)
      · have c_144 : ¬ (nI (sb s 7)) = 0 := of_decide_eq_true c_144
        have n_144 : ¬ (sb s 7 = 0) := fun h9 => c_144 ((eq_nI (p := sb s 7) (n := 0) (Nat.lt_trans (sb_lt _ _) (by decide)) (by decide)).mpr h9)
        refine ps_st (S' := (153, [], [.int 35], M29)) rfl rfl rfl ?_
        exact ps_ret rfl rfl (Or.inr (Or.inl ⟨35, by
            unfold brS
            first | ((repeat first | rw [if_pos (by omega)] | rw [if_neg (by omega)]) <;> first | rfl | omega) | ((repeat' split) <;> first | rfl | (exfalso; omega) | omega), by decide, rfl, h36, hF38⟩))
      · have c_144 : ¬ (¬ (nI (sb s 7)) = 0) := of_decide_eq_false c_144
        have n_144 : sb s 7 = 0 := (eq_nI (p := sb s 7) (n := 0) (Nat.lt_trans (sb_lt _ _) (by decide)) (by decide)).mp (Decidable.not_not.mp c_144)
        refine ps_st (S' := (148, [(0, .ref ac), (1, .int (nI k)), (2, .int (nI p))], [.int 0], M29)) rfl rfl rfl ?_
        refine ps_st (S' := (153, [], [.int 0], M29)) rfl rfl rfl ?_
        exact ps_ret rfl rfl (Or.inl ⟨by
            unfold brS
            first | ((repeat first | rw [if_pos (by omega)] | rw [if_neg (by omega)]) <;> first | rfl | omega) | ((repeat' split) <;> first | rfl | (exfalso; omega) | omega), rfl, h36, by rw [if_neg (show ¬ k = 6 by omega), if_neg (show ¬ k = 6 by omega), if_neg (show ¬ k = 5 by omega), if_pos (show k = 8 by omega), if_neg (show ¬ k = 10 by omega), if_neg (show ¬ k = 9 by omega)]; exact h30, hF38⟩)
  · show pl _ _ _ (154, [(0, .ref ac), (1, .int (nI k)), (2, .int (nI p))], [], M) _
    have m_1 := sw_nat (t := k) (by omega) et_1
    simp at m_1
    have hb8 := s_fe_in (hfe (by omega))
    have hb7 := hb8.1
    have hb9 := hb8.2.2.1 (by omega)
    refine ps_st (S' := (155, [(0, .ref ac), (1, .int (nI k)), (2, .int (nI p))], [.ref ac], M)) rfl rfl rfl ?_
    refine ps_get (S' := (158, [(0, .ref ac), (1, .int (nI k)), (2, .int (nI p))], [.ref c], M)) rfl h_ac rfl rfl ?_
    refine ps_st (S' := (159, [(0, .ref ac), (1, .int (nI k)), (2, .int (nI p))], [.ref ac, .ref c], M)) rfl rfl rfl ?_
    refine ps_get (S' := (162, [(0, .ref ac), (1, .int (nI k)), (2, .int (nI p))], [.ref b, .ref c], M)) rfl h_ac rfl rfl ?_
    refine ps_st (S' := (163, [(0, .ref ac), (1, .int (nI k)), (2, .int (nI p))], [.int (nI p), .ref b, .ref c], M)) rfl rfl rfl ?_
    refine ps_st (S' := (165, [(0, .ref ac), (1, .int (nI k)), (2, .int (nI p))], [.int 6, .int (nI p), .ref b, .ref c], M)) rfl rfl rfl ?_
    refine ps_st (S' := (166, [(0, .ref ac), (1, .int (nI k)), (2, .int (nI p))], [.int ((nI p) + 6), .ref b, .ref c], M)) rfl rfl rfl ?_
    rw [nI_add1 (p := p) (k := 6) (x := 6) rfl (by omega)]
    show pl _ _ _ (_, [(0, .ref ac), (1, .int (nI k)), (2, .int (nI p))], [.int (nI (p + 6)), .ref b, .ref c], M) _
    refine pl_call (a := [.ref b, .int (nI (p + 6))]) (rest := [.ref c]) rfl rfl rfl (dk_u2 (f := f) (n := n) (b := b) (da := da) (p := (p + 6)) h_b h_da (hn) (by omega)) (fun v45 M46 q47 => ?_)
    obtain ⟨rfl, rfl⟩ := q47
    show pl _ _ _ (169, [(0, .ref ac), (1, .int (nI k)), (2, .int (nI p))], [.int (nI (by2 f (p + 6))), .ref c], M) _
    have hu_166 := by2_lt f (p + 6)
    refine ps_put (l' := [.ref b, .ref q, .int mi, .int (nI mj), .int (nI fa), .int (nI ic), .ref fr, .ref mr, .int (nI na), .int (nI pa), .int k1, .int (nI bc), .int (nI bp), .int (nI i4), .int (nI i5), .int (nI (by2 f (p + 6))), .int k7]) rfl h_c rfl rfl (fun M48 h49 f50 z51 => ?_)
    have h52 := (f50 ac (ob_ne h_ac h_c (by decide))).trans h_ac
    have h53 := (f50 b (ob_ne h_b h_c (by decide))).trans h_b
    have h54 := (f50 da (Ne.symm (ob_ar h_c h_da))).trans h_da
    have h55 := (f50 vd (ob_ne h_vd h_c (by decide))).trans h_vd
    have hV56 := hV.put h_c (by decide) f50 z51
    have hF57 := hF.up (by simp) f50 z51
    show pl _ _ _ (172, [(0, .ref ac), (1, .int (nI k)), (2, .int (nI p))], [], M48) _
    refine ps_st (S' := (173, [(0, .ref ac), (1, .int (nI k)), (2, .int (nI p))], [.ref ac], M48)) rfl rfl rfl ?_
    refine ps_st (S' := (174, [(0, .ref ac), (1, .int (nI k)), (2, .int (nI p))], [.int (nI p), .ref ac], M48)) rfl rfl rfl ?_
    refine pl_call (a := [.ref ac, .int (nI p)]) (rest := []) rfl rfl rfl (dk_areClasses (f := f) (n := n) (N := N) (q := q) (E := E) (ac := ac) (c := c) (b := b) (da := da) (vd := vd) (fr := fr) (mr := mr) (fa := fa) (ic := ic) (mj := mj) (na := na) (pa := pa) (mi := mi) (ru := ru) (wa := wa) (s1 := (nI s)) (k1 := k1) (k2 := (nI bc)) (k3 := (nI bp)) (k4 := (nI i4)) (k5 := (nI i5)) (k6 := (nI (by2 f (p + 6)))) (k7 := k7) (p := p) h52 h53 h54 (hn) (by omega) (hV56)) (fun v58 M59 q60 => ?_)
    obtain ⟨rfl, rfl⟩ := q60
    show pl _ _ _ (177, [(0, .ref ac), (1, .int (nI k)), (2, .int (nI p))], [.int (nI (clA f E (p + 8) (by2 f (p + 6)) 0))], M48) _
    refine ps_if (S1 := (196, [], [], M48)) (S2 := (180, [(0, .ref ac), (1, .int (nI k)), (2, .int (nI p))], [], M48)) rfl rfl rfl (fun c_177 => ?_) (fun c_177 => ?_)
    · have c_177 : (nI (clA f E (p + 8) (by2 f (p + 6)) 0)) = 0 := of_decide_eq_true c_177
      have n_177 : clA f E (p + 8) (by2 f (p + 6)) 0 = 0 := (eq_nI (p := clA f E (p + 8) (by2 f (p + 6)) 0) (n := 0) (Nat.lt_trans (le1_cl _ _ _ _ _) (by decide)) (by decide)).mp c_177
      refine ps_st (S' := (198, [], [.int 36], M48)) rfl rfl rfl ?_
      exact ps_ret rfl rfl (Or.inr (Or.inl ⟨36, by
          unfold brS
          first | ((repeat first | rw [if_pos (by omega)] | rw [if_neg (by omega)]) <;> first | rfl | omega) | ((repeat' split) <;> first | rfl | (exfalso; omega) | omega), by decide, rfl, h55, hF57⟩))
    · have c_177 : ¬ ((nI (clA f E (p + 8) (by2 f (p + 6)) 0)) = 0) := of_decide_eq_false c_177
      have n_177 : ¬ (clA f E (p + 8) (by2 f (p + 6)) 0 = 0) := fun h9 => c_177 ((eq_nI (p := clA f E (p + 8) (by2 f (p + 6)) 0) (n := 0) (Nat.lt_trans (le1_cl _ _ _ _ _) (by decide)) (by decide)).mpr h9)
      refine ps_st (S' := (181, [(0, .ref ac), (1, .int (nI k)), (2, .int (nI p))], [.ref ac], M48)) rfl rfl rfl ?_
      refine ps_get (S' := (184, [(0, .ref ac), (1, .int (nI k)), (2, .int (nI p))], [.ref c], M48)) rfl h52 rfl rfl ?_
      refine ps_st (S' := (186, [(0, .ref ac), (1, .int (nI k)), (2, .int (nI p))], [.int 16, .ref c], M48)) rfl rfl rfl ?_
      refine pl_call (a := [.ref c, .int 16]) (rest := []) rfl rfl rfl (dk_fhas (f := f) (n := n) (q := q) (c := c) (b := b) (da := da) (fr := fr) (mr := mr) (fa := fa) (ic := ic) (mj := mj) (na := na) (pa := pa) (mi := mi) (k1 := k1) (k2 := (nI bc)) (k3 := (nI bp)) (k4 := (nI i4)) (k5 := (nI i5)) (k6 := (nI (by2 f (p + 6)))) (k7 := k7) (x := 16) h49 h53 h54 (hn) (hfa)) (fun v61 M62 q63 => ?_)
      obtain ⟨rfl, rfl⟩ := q63
      show pl _ _ _ (189, [(0, .ref ac), (1, .int (nI k)), (2, .int (nI p))], [.int (nI (hasN (by2 f fa) 16))], M48) _
      refine ps_if (S1 := (196, [], [], M48)) (S2 := (192, [(0, .ref ac), (1, .int (nI k)), (2, .int (nI p))], [], M48)) rfl rfl rfl (fun c_189 => ?_) (fun c_189 => ?_)
      · have c_189 : ¬ (nI (hasN (by2 f fa) 16)) = 0 := of_decide_eq_true c_189
        have n_189 : ¬ (hasN (by2 f fa) 16 = 0) := fun h9 => c_189 ((eq_nI (p := hasN (by2 f fa) 16) (n := 0) (Nat.lt_trans (le1_has _ _) (by decide)) (by decide)).mpr h9)
        refine ps_st (S' := (198, [], [.int 36], M48)) rfl rfl rfl ?_
        exact ps_ret rfl rfl (Or.inr (Or.inl ⟨36, by
            unfold brS
            first | ((repeat first | rw [if_pos (by omega)] | rw [if_neg (by omega)]) <;> first | rfl | omega) | ((repeat' split) <;> first | rfl | (exfalso; omega) | omega), by decide, rfl, h55, hF57⟩))
      · have c_189 : ¬ (¬ (nI (hasN (by2 f fa) 16)) = 0) := of_decide_eq_false c_189
        have n_189 : hasN (by2 f fa) 16 = 0 := (eq_nI (p := hasN (by2 f fa) 16) (n := 0) (Nat.lt_trans (le1_has _ _) (by decide)) (by decide)).mp (Decidable.not_not.mp c_189)
        refine ps_st (S' := (193, [(0, .ref ac), (1, .int (nI k)), (2, .int (nI p))], [.int 0], M48)) rfl rfl rfl ?_
        refine ps_st (S' := (198, [], [.int 0], M48)) rfl rfl rfl ?_
        exact ps_ret rfl rfl (Or.inl ⟨by
            unfold brS
            first | ((repeat first | rw [if_pos (by omega)] | rw [if_neg (by omega)]) <;> first | rfl | omega) | ((repeat' split) <;> first | rfl | (exfalso; omega) | omega), rfl, h55, by rw [if_neg (show ¬ k = 6 by omega), if_neg (show ¬ k = 6 by omega), if_neg (show ¬ k = 5 by omega), if_neg (show ¬ k = 8 by omega), if_pos (show k = 10 by omega), if_neg (show ¬ k = 9 by omega)]; exact h49, hF57⟩)
  · show pl _ _ _ (199, [(0, .ref ac), (1, .int (nI k)), (2, .int (nI p))], [], M) _
    have m_1 := sw_nat (t := k) (by omega) et_1
    simp at m_1
    have hb8 := s_fe_in (hfe (by omega))
    have hb7 := hb8.1
    have hb9 := hb8.2.2.2.2.2.1 (by omega)
    refine ps_st (S' := (200, [(0, .ref ac), (1, .int (nI k)), (2, .int (nI p))], [.ref ac], M)) rfl rfl rfl ?_
    refine ps_get (S' := (203, [(0, .ref ac), (1, .int (nI k)), (2, .int (nI p))], [.ref c], M)) rfl h_ac rfl rfl ?_
    refine ps_st (S' := (204, [(0, .ref ac), (1, .int (nI k)), (2, .int (nI p))], [.ref ac, .ref c], M)) rfl rfl rfl ?_
    refine ps_get (S' := (207, [(0, .ref ac), (1, .int (nI k)), (2, .int (nI p))], [.ref b, .ref c], M)) rfl h_ac rfl rfl ?_
    refine ps_st (S' := (208, [(0, .ref ac), (1, .int (nI k)), (2, .int (nI p))], [.int (nI p), .ref b, .ref c], M)) rfl rfl rfl ?_
    refine ps_st (S' := (210, [(0, .ref ac), (1, .int (nI k)), (2, .int (nI p))], [.int 6, .int (nI p), .ref b, .ref c], M)) rfl rfl rfl ?_
    refine ps_st (S' := (211, [(0, .ref ac), (1, .int (nI k)), (2, .int (nI p))], [.int ((nI p) + 6), .ref b, .ref c], M)) rfl rfl rfl ?_
    rw [nI_add1 (p := p) (k := 6) (x := 6) rfl (by omega)]
    show pl _ _ _ (_, [(0, .ref ac), (1, .int (nI k)), (2, .int (nI p))], [.int (nI (p + 6)), .ref b, .ref c], M) _
    refine pl_call (a := [.ref b, .int (nI (p + 6))]) (rest := [.ref c]) rfl rfl rfl (dk_u2 (f := f) (n := n) (b := b) (da := da) (p := (p + 6)) h_b h_da (hn) (by omega)) (fun v64 M65 q66 => ?_)
    obtain ⟨rfl, rfl⟩ := q66
    show pl _ _ _ (214, [(0, .ref ac), (1, .int (nI k)), (2, .int (nI p))], [.int (nI (by2 f (p + 6))), .ref c], M) _
    have hu_211 := by2_lt f (p + 6)
    refine ps_put (l' := [.ref b, .ref q, .int mi, .int (nI mj), .int (nI fa), .int (nI ic), .ref fr, .ref mr, .int (nI na), .int (nI pa), .int k1, .int (nI bc), .int (nI bp), .int (nI i4), .int (nI i5), .int (nI i6), .int (nI (by2 f (p + 6)))]) rfl h_c rfl rfl (fun M67 h68 f69 z70 => ?_)
    have h71 := (f69 ac (ob_ne h_ac h_c (by decide))).trans h_ac
    have h72 := (f69 b (ob_ne h_b h_c (by decide))).trans h_b
    have h73 := (f69 da (Ne.symm (ob_ar h_c h_da))).trans h_da
    have h74 := (f69 vd (ob_ne h_vd h_c (by decide))).trans h_vd
    have hV75 := hV.put h_c (by decide) f69 z70
    have hF76 := hF.up (by simp) f69 z70
    show pl _ _ _ (217, [(0, .ref ac), (1, .int (nI k)), (2, .int (nI p))], [], M67) _
    refine ps_st (S' := (218, [(0, .ref ac), (1, .int (nI k)), (2, .int (nI p))], [.ref ac], M67)) rfl rfl rfl ?_
    refine ps_st (S' := (219, [(0, .ref ac), (1, .int (nI k)), (2, .int (nI p))], [.int (nI p), .ref ac], M67)) rfl rfl rfl ?_
    refine pl_call (a := [.ref ac, .int (nI p)]) (rest := []) rfl rfl rfl (dk_recordHolds (f := f) (n := n) (N := N) (q := q) (E := E) (ac := ac) (c := c) (b := b) (da := da) (vd := vd) (fr := fr) (mr := mr) (fa := fa) (ic := ic) (mj := mj) (na := na) (pa := pa) (mi := mi) (ru := ru) (wa := wa) (s1 := (nI s)) (k1 := k1) (k2 := (nI bc)) (k3 := (nI bp)) (k4 := (nI i4)) (k5 := (nI i5)) (k6 := (nI i6)) (p := p) (ct := (by2 f (p + 6))) (e := e) h71 h72 h73 h68 h74 (hn) (by2_lt _ _) (he) (by omega) (hb9) (hV75)) (fun v77 M78 q79 => ?_)
    rcases q79 with q79 | q79
    · skip
      obtain ⟨q219_s, rfl, h80, f81⟩ := q79
      have h83 := (f81.1 ac (nin1 (ob_ne h71 h74 (by decide)))).trans h71
      have h84 := (f81.1 b (nin1 (ob_ne h72 h74 (by decide)))).trans h72
      have h85 := (f81.1 da (nin1 (Ne.symm (ob_ar h74 h73)))).trans h73
      have h86 := (f81.1 c (nin1 (ob_ne h68 h74 (by decide)))).trans h68
      have hF87 := hF76.tr f81 (by simp)
      have hV88 := hV75.keep f81.gm (n7c h74 (by decide) (n7nil))
      show pl _ _ _ (222, [(0, .ref ac), (1, .int (nI k)), (2, .int (nI p))], [.int 1], M78) _
      refine ps_if (S1 := (229, [(0, .ref ac), (1, .int (nI k)), (2, .int (nI p))], [], M78)) (S2 := (225, [(0, .ref ac), (1, .int (nI k)), (2, .int (nI p))], [], M78)) rfl rfl rfl (fun c_222 => ?_) (fun c_222 => ?_)
      · exact absurd (of_decide_eq_true c_222) (by decide)
      refine ps_st (S' := (226, [(0, .ref ac), (1, .int (nI k)), (2, .int (nI p))], [.int 0], M78)) rfl rfl rfl ?_
      refine ps_st (S' := (230, [], [.int 0], M78)) rfl rfl rfl ?_
      exact ps_ret rfl rfl (Or.inl ⟨by
          unfold brS
          rw [if_neg (by omega), if_neg (by omega), if_neg (by omega), if_neg (by omega), if_pos (by omega), q219_s], rfl, h80, by rw [if_neg (show ¬ k = 6 by omega), if_neg (show ¬ k = 6 by omega), if_neg (show ¬ k = 5 by omega), if_neg (show ¬ k = 8 by omega), if_neg (show ¬ k = 10 by omega), if_pos (show k = 9 by omega)]; exact h86, hF87⟩)
    · skip
      obtain ⟨e989, q219_s, rfl, h90, f91⟩ := q79
      have h93 := (f91.1 ac (nin1 (ob_ne h71 h74 (by decide)))).trans h71
      have h94 := (f91.1 b (nin1 (ob_ne h72 h74 (by decide)))).trans h72
      have h95 := (f91.1 da (nin1 (Ne.symm (ob_ar h74 h73)))).trans h73
      have h96 := (f91.1 c (nin1 (ob_ne h68 h74 (by decide)))).trans h68
      have hF97 := hF76.tr f91 (by simp)
      have hV98 := hV75.keep f91.gm (n7c h74 (by decide) (n7nil))
      show pl _ _ _ (222, [(0, .ref ac), (1, .int (nI k)), (2, .int (nI p))], [.int 0], M78) _
      refine ps_if (S1 := (229, [(0, .ref ac), (1, .int (nI k)), (2, .int (nI p))], [], M78)) (S2 := (225, [(0, .ref ac), (1, .int (nI k)), (2, .int (nI p))], [], M78)) rfl rfl rfl (fun c_222 => ?_) (fun c_222 => ?_)
      rotate_left
      · exact absurd (by decide) (of_decide_eq_false c_222)
      refine ps_st (S' := (230, [], [.int (-1)], M78)) rfl rfl rfl ?_
      exact ps_ret rfl rfl (Or.inr (Or.inr ⟨e989, by
          unfold brS
          rw [if_neg (by omega), if_neg (by omega), if_neg (by omega), if_neg (by omega), if_pos (by omega), q219_s], rfl, h90, hF97⟩))
  · show pl _ _ _ (231, [(0, .ref ac), (1, .int (nI k)), (2, .int (nI p))], [], M) _
    have m_1 := sw_nat (t := k) (by omega) et_1
    simp at m_1
    have hb8 := s_fe_in (hfe (by omega))
    have hb7 := hb8.1
    have hb9 := hb8.2.2.2.2.1 (by omega)
    refine ps_st (S' := (232, [(0, .ref ac), (1, .int (nI k)), (2, .int (nI p))], [.ref ac], M)) rfl rfl rfl ?_
    refine ps_get (S' := (235, [(0, .ref ac), (1, .int (nI k)), (2, .int (nI p))], [.ref c], M)) rfl h_ac rfl rfl ?_
    refine ps_st (S' := (236, [(0, .ref ac), (1, .int (nI k)), (2, .int (nI p))], [.ref ac, .ref c], M)) rfl rfl rfl ?_
    refine ps_get (S' := (239, [(0, .ref ac), (1, .int (nI k)), (2, .int (nI p))], [.ref b, .ref c], M)) rfl h_ac rfl rfl ?_
    refine ps_st (S' := (240, [(0, .ref ac), (1, .int (nI k)), (2, .int (nI p))], [.int (nI p), .ref b, .ref c], M)) rfl rfl rfl ?_
    refine ps_st (S' := (242, [(0, .ref ac), (1, .int (nI k)), (2, .int (nI p))], [.int 6, .int (nI p), .ref b, .ref c], M)) rfl rfl rfl ?_
    refine ps_st (S' := (243, [(0, .ref ac), (1, .int (nI k)), (2, .int (nI p))], [.int ((nI p) + 6), .ref b, .ref c], M)) rfl rfl rfl ?_
    rw [nI_add1 (p := p) (k := 6) (x := 6) rfl (by omega)]
    show pl _ _ _ (_, [(0, .ref ac), (1, .int (nI k)), (2, .int (nI p))], [.int (nI (p + 6)), .ref b, .ref c], M) _
    refine pl_call (a := [.ref b, .int (nI (p + 6))]) (rest := [.ref c]) rfl rfl rfl (dk_u2 (f := f) (n := n) (b := b) (da := da) (p := (p + 6)) h_b h_da (hn) (by omega)) (fun v99 M100 q101 => ?_)
    obtain ⟨rfl, rfl⟩ := q101
    show pl _ _ _ (246, [(0, .ref ac), (1, .int (nI k)), (2, .int (nI p))], [.int (nI (by2 f (p + 6))), .ref c], M) _
    have hu_243 := by2_lt f (p + 6)
    refine ps_put (l' := [.ref b, .ref q, .int mi, .int (nI mj), .int (nI fa), .int (nI ic), .ref fr, .ref mr, .int (nI na), .int (nI pa), .int k1, .int (nI (by2 f (p + 6))), .int (nI bp), .int (nI i4), .int (nI i5), .int (nI i6), .int k7]) rfl h_c rfl rfl (fun M102 h103 f104 z105 => ?_)
    have h106 := (f104 ac (ob_ne h_ac h_c (by decide))).trans h_ac
    have h107 := (f104 b (ob_ne h_b h_c (by decide))).trans h_b
    have h108 := (f104 da (Ne.symm (ob_ar h_c h_da))).trans h_da
    have h109 := (f104 vd (ob_ne h_vd h_c (by decide))).trans h_vd
    have hV110 := hV.put h_c (by decide) f104 z105
    have hF111 := hF.up (by simp) f104 z105
    show pl _ _ _ (249, [(0, .ref ac), (1, .int (nI k)), (2, .int (nI p))], [], M102) _
    refine ps_st (S' := (250, [(0, .ref ac), (1, .int (nI k)), (2, .int (nI p))], [.ref ac], M102)) rfl rfl rfl ?_
    refine ps_get (S' := (253, [(0, .ref ac), (1, .int (nI k)), (2, .int (nI p))], [.ref c], M102)) rfl h106 rfl rfl ?_
    refine ps_st (S' := (254, [(0, .ref ac), (1, .int (nI k)), (2, .int (nI p))], [.int (nI p), .ref c], M102)) rfl rfl rfl ?_
    refine ps_st (S' := (256, [(0, .ref ac), (1, .int (nI k)), (2, .int (nI p))], [.int 8, .int (nI p), .ref c], M102)) rfl rfl rfl ?_
    refine ps_st (S' := (257, [(0, .ref ac), (1, .int (nI k)), (2, .int (nI p))], [.int ((nI p) + 8), .ref c], M102)) rfl rfl rfl ?_
    rw [nI_add1 (p := p) (k := 8) (x := 8) rfl (by omega)]
    show pl _ _ _ (_, [(0, .ref ac), (1, .int (nI k)), (2, .int (nI p))], [.int (nI (p + 8)), .ref c], M102) _
    refine ps_put (l' := [.ref b, .ref q, .int mi, .int (nI mj), .int (nI fa), .int (nI ic), .ref fr, .ref mr, .int (nI na), .int (nI pa), .int k1, .int (nI (by2 f (p + 6))), .int (nI (p + 8)), .int (nI i4), .int (nI i5), .int (nI i6), .int k7]) rfl h103 rfl rfl (fun M112 h113 f114 z115 => ?_)
    have h116 := (f114 ac (ob_ne h106 h103 (by decide))).trans h106
    have h117 := (f114 b (ob_ne h107 h103 (by decide))).trans h107
    have h118 := (f114 da (Ne.symm (ob_ar h103 h108))).trans h108
    have h119 := (f114 vd (ob_ne h109 h103 (by decide))).trans h109
    have hV120 := hV110.put h103 (by decide) f114 z115
    have hF121 := hF111.up (by simp) f114 z115
    show pl _ _ _ (260, [(0, .ref ac), (1, .int (nI k)), (2, .int (nI p))], [], M112) _
    refine ps_st (S' := (261, [(0, .ref ac), (1, .int (nI k)), (2, .int (nI p))], [.ref ac], M112)) rfl rfl rfl ?_
    refine pl_call (a := [.ref ac]) (rest := []) rfl rfl rfl (dk_bsHold (f := f) (n := n) (N := N) (q := q) (E := E) (ac := ac) (c := c) (b := b) (da := da) (vd := vd) (fr := fr) (mr := mr) (fa := fa) (ic := ic) (mj := mj) (na := na) (pa := pa) (mi := mi) (ru := ru) (wa := wa) (s1 := (nI s)) (k1 := k1) (k2 := 0) (k3 := 0) (k4 := (nI i4)) (k5 := (nI i5)) (k6 := (nI i6)) (k7 := k7) (p0 := (p + 8)) (ct := (by2 f (p + 6))) (e := e) h116 h117 h118 h113 (hn) (by2_lt _ _) (he) (hb9) (hV120)) (fun v122 M123 q124 => ?_)
    obtain ⟨rfl, rfl⟩ := q124
    show pl _ _ _ (264, [(0, .ref ac), (1, .int (nI k)), (2, .int (nI p))], [.int (nI (bsA f E (by2 f (p + 6)) (p + 8)))], M112) _
    refine ps_if (S1 := (271, [(0, .ref ac), (1, .int (nI k)), (2, .int (nI p))], [], M112)) (S2 := (267, [(0, .ref ac), (1, .int (nI k)), (2, .int (nI p))], [], M112)) rfl rfl rfl (fun c_264 => ?_) (fun c_264 => ?_)
    · have c_264 : (nI (bsA f E (by2 f (p + 6)) (p + 8))) = 0 := of_decide_eq_true c_264
      have n_264 : bsA f E (by2 f (p + 6)) (p + 8) = 0 := (eq_nI (p := bsA f E (by2 f (p + 6)) (p + 8)) (n := 0) (Nat.lt_trans (le1_bsa _ _ _ _) (by decide)) (by decide)).mp c_264
      refine ps_st (S' := (273, [], [.int 38], M112)) rfl rfl rfl ?_
      exact ps_ret rfl rfl (Or.inr (Or.inl ⟨38, by
          unfold brS
          first | ((repeat first | rw [if_pos (by omega)] | rw [if_neg (by omega)]) <;> first | rfl | omega) | ((repeat' split) <;> first | rfl | (exfalso; omega) | omega), by decide, rfl, h119, hF121⟩))
    · have c_264 : ¬ ((nI (bsA f E (by2 f (p + 6)) (p + 8))) = 0) := of_decide_eq_false c_264
      have n_264 : ¬ (bsA f E (by2 f (p + 6)) (p + 8) = 0) := fun h9 => c_264 ((eq_nI (p := bsA f E (by2 f (p + 6)) (p + 8)) (n := 0) (Nat.lt_trans (le1_bsa _ _ _ _) (by decide)) (by decide)).mpr h9)
      refine ps_st (S' := (268, [(0, .ref ac), (1, .int (nI k)), (2, .int (nI p))], [.int 0], M112)) rfl rfl rfl ?_
      refine ps_st (S' := (273, [], [.int 0], M112)) rfl rfl rfl ?_
      exact ps_ret rfl rfl (Or.inl ⟨by
          unfold brS
          first | ((repeat first | rw [if_pos (by omega)] | rw [if_neg (by omega)]) <;> first | rfl | omega) | ((repeat' split) <;> first | rfl | (exfalso; omega) | omega), rfl, h119, by rw [if_pos (show k = 6 by omega), if_pos (show k = 6 by omega), if_neg (show ¬ k = 5 by omega), if_neg (show ¬ k = 8 by omega), if_neg (show ¬ k = 10 by omega), if_neg (show ¬ k = 9 by omega)]; exact h113, hF121⟩)
  · show pl _ _ _ (274, [(0, .ref ac), (1, .int (nI k)), (2, .int (nI p))], [], M) _
    have m_1 := sw_nat (t := k) (by omega) et_1
    simp at m_1
    refine ps_st (S' := (275, [(0, .ref ac), (1, .int (nI k)), (2, .int (nI p))], [.int 0], M)) rfl rfl rfl ?_
    exact ps_ret rfl rfl (Or.inl ⟨by
        unfold brS
        first | ((repeat first | rw [if_pos (by omega)] | rw [if_neg (by omega)]) <;> first | rfl | omega) | ((repeat' split) <;> first | rfl | (exfalso; omega) | omega), rfl, h_vd, by rw [if_neg (show ¬ k = 6 by omega), if_neg (show ¬ k = 6 by omega), if_neg (show ¬ k = 5 by omega), if_neg (show ¬ k = 8 by omega), if_neg (show ¬ k = 10 by omega), if_neg (show ¬ k = 9 by omega)]; exact h_c, hF⟩)
set_option maxHeartbeats 1000000 in
theorem dk_ofField {g : xe_G} {M : mi_H} {f : Nat → Int32} {n N q : Nat} {E : List (Nat × Nat)} {ac c b da vd fr mr fa ic mj na pa : Nat} {mi ru wa s1 k1 k2 k3 k4 k5 k6 k7 : Int32} {a b0 e0 : Nat} {kn co ap ex : Int32} {cd : Value} (h_ac : M.1 ac = some (ob 0 [.ref c, .ref b, .ref q, .ref vd, .int s1])) (h_b : M.1 b = some (ob 1 [.ref da])) (h_da : M.1 da = some (ar .byte n f)) (h_c : M.1 c = some (ob 3 [.ref b, .ref q, .int mi, .int (nI mj), .int (nI fa), .int (nI ic), .ref fr, .ref mr, .int (nI na), .int (nI pa), .int k1, .int k2, .int k3, .int k4, .int k5, .int k6, .int k7])) (h_vd : M.1 vd = some (ob 10 [.int ru, .int wa])) (h_a : M.1 a = some (ob 6 [.int (nI b0), .int (nI (by2 f b0)), .int (nI (by2 f (b0 + 2))), .int (nI (by2 f (b0 + 4))), .int (nI (by2 f (b0 + 6))), .int (nI (b0 + 8)), .int kn, .int co, .int ap, .int ex, cd])) (hn : n ≤ 65540) (hmj : mj < 65536) (hb1 : b0 + 8 ≤ n) (hat : s_atts f n (by2 f (b0 + 6)) (b0 + 8) = .inr e0) (hV : PV g f n N E q M) : pt (mT g) 39 [.ref ac, .ref a] M (fun v M' => (∃ (s2 kn2 co2 : Int32), (faS f n E (by2 f b0) (tX f n E (by2 f (b0 + 4))) (by2 f (b0 + 6)) (b0 + 8) 0 = none) ∧ v = some (.int 1) ∧ M'.1 vd = some (ob 10 [.int ru, .int wa]) ∧ M'.1 ac = some (ob 0 [.ref c, .ref b, .ref q, .ref vd, .int s2]) ∧ M'.1 a = some (ob 6 [.int (nI b0), .int (nI (by2 f b0)), .int (nI (by2 f (b0 + 2))), .int (nI (by2 f (b0 + 4))), .int (nI (by2 f (b0 + 6))), .int (nI (b0 + 8)), .int kn2, .int co2, .int ap, .int ex, cd]) ∧ fm [ac, vd, a] M M') ∨ (∃ (e9 : Nat × Nat), (faS f n E (by2 f b0) (tX f n E (by2 f (b0 + 4))) (by2 f (b0 + 6)) (b0 + 8) 0 = some e9) ∧ v = some (.int 0) ∧ M'.1 vd = some (ob 10 [.int (nI e9.1), .int (nI e9.2)]) ∧ fm [ac, vd, a] M M')) := by
  refine pt_in (b := mb_39 g) rfl (fun kf => ?_)
  show pl (mT g) kf (mb_39 g).2 (0, [(0, .ref ac), (1, .ref a)], [], M) _
  have hF : fm [ac, vd, a] M M := fm.rf
  have LL : ∀ (kf : Nat), (∀ (i p s2 : Nat) (kn2 co2 : Int32) (M1 : mi_H), (M1.1 ac = some (ob 0 [.ref c, .ref b, .ref q, .ref vd, .int (nI s2)])) → (M1.1 b = some (ob 1 [.ref da])) → (M1.1 da = some (ar .byte n f)) → (M1.1 c = some (ob 3 [.ref b, .ref q, .int mi, .int (nI mj), .int (nI fa), .int (nI ic), .ref fr, .ref mr, .int (nI na), .int (nI pa), .int k1, .int k2, .int k3, .int k4, .int k5, .int k6, .int k7])) → (M1.1 vd = some (ob 10 [.int ru, .int wa])) → (M1.1 a = some (ob 6 [.int (nI b0), .int (nI (by2 f b0)), .int (nI (by2 f (b0 + 2))), .int (nI (by2 f (b0 + 4))), .int (nI (by2 f (b0 + 6))), .int (nI (b0 + 8)), .int kn2, .int co2, .int ap, .int ex, cd])) → (PV g f n N E q M1) → (fm [ac, vd, a] M M1) → (i ≤ by2 f (b0 + 6)) → (s2 < 2048) → (s_atts f n (by2 f (b0 + 6) - i) p = .inr e0) → (faS f n E (by2 f b0) (tX f n E (by2 f (b0 + 4))) (by2 f (b0 + 6) - i) p s2 = faS f n E (by2 f b0) (tX f n E (by2 f (b0 + 4))) (by2 f (b0 + 6)) (b0 + 8) 0) →  pl (mT g) kf (mb_39 g).2 (12, [(0, .ref ac), (1, .ref a), (2, .int (nI p)), (3, .int (nI i))], [], M1) (fun v M' => (∃ (s2 kn2 co2 : Int32), (faS f n E (by2 f b0) (tX f n E (by2 f (b0 + 4))) (by2 f (b0 + 6)) (b0 + 8) 0 = none) ∧ v = some (.int 1) ∧ M'.1 vd = some (ob 10 [.int ru, .int wa]) ∧ M'.1 ac = some (ob 0 [.ref c, .ref b, .ref q, .ref vd, .int s2]) ∧ M'.1 a = some (ob 6 [.int (nI b0), .int (nI (by2 f b0)), .int (nI (by2 f (b0 + 2))), .int (nI (by2 f (b0 + 4))), .int (nI (by2 f (b0 + 6))), .int (nI (b0 + 8)), .int kn2, .int co2, .int ap, .int ex, cd]) ∧ fm [ac, vd, a] M M') ∨ (∃ (e9 : Nat × Nat), (faS f n E (by2 f b0) (tX f n E (by2 f (b0 + 4))) (by2 f (b0 + 6)) (b0 + 8) 0 = some e9) ∧ v = some (.int 0) ∧ M'.1 vd = some (ob 10 [.int (nI e9.1), .int (nI e9.2)]) ∧ fm [ac, vd, a] M M'))) := by
    intro kf
    induction kf with
    | zero => exact (by intros; exact pl_0)
    | succ kf ih =>
      intro i p s2 kn2 co2 M1 hl_ac hl_b hl_da hl_c hl_vd hl_a hV1 hF1 hi hl ha hs9
      have hu9 := by2_lt f (b0 + 6)
      refine ps_st1 (S' := (13, [(0, .ref ac), (1, .ref a), (2, .int (nI p)), (3, .int (nI i))], [.int (nI i)], M1)) rfl rfl rfl ?_
      refine ps_st (S' := (14, [(0, .ref ac), (1, .ref a), (2, .int (nI p)), (3, .int (nI i))], [.ref a, .int (nI i)], M1)) rfl rfl rfl ?_
      refine ps_get (S' := (17, [(0, .ref ac), (1, .ref a), (2, .int (nI p)), (3, .int (nI i))], [.int (nI (by2 f (b0 + 6))), .int (nI i)], M1)) rfl hl_a rfl rfl ?_
      refine ps_if2 (S1 := (173, [(0, .ref ac), (1, .ref a), (2, .int (nI p)), (3, .int (nI i))], [], M1)) (S2 := (20, [(0, .ref ac), (1, .ref a), (2, .int (nI p)), (3, .int (nI i))], [], M1)) rfl rfl rfl (fun c_17 => ?_) (fun c_17 => ?_)
      · have c_17 : (nI (by2 f (b0 + 6))) ≤ (nI i) := of_decide_eq_true c_17
        have n_17 : by2 f (b0 + 6) ≤ i := (le_nI (p := by2 f (b0 + 6)) (n := i) (Nat.lt_trans (by2_lt _ _) (by decide)) (by omega)).mp c_17
        refine ps_st (S' := (174, [(0, .ref ac), (1, .ref a), (2, .int (nI p)), (3, .int (nI i))], [.ref a], M1)) rfl rfl rfl ?_
        refine ps_st (S' := (175, [(0, .ref ac), (1, .ref a), (2, .int (nI p)), (3, .int (nI i))], [.ref ac, .ref a], M1)) rfl rfl rfl ?_
        refine ps_get (S' := (178, [(0, .ref ac), (1, .ref a), (2, .int (nI p)), (3, .int (nI i))], [.int (nI s2), .ref a], M1)) rfl hl_ac rfl rfl ?_
        refine pl_call (a := [.int (nI s2)]) (rest := [.ref a]) rfl rfl rfl (dk_bitCountA (y := (nI s2))) (fun v1 M2 q3 => ?_)
        obtain ⟨x4, rfl, rfl⟩ := q3
        show pl _ _ _ (181, [(0, .ref ac), (1, .ref a), (2, .int (nI p)), (3, .int (nI i))], [.int x4, .ref a], M1) _
        refine ps_put (l' := [.int (nI b0), .int (nI (by2 f b0)), .int (nI (by2 f (b0 + 2))), .int (nI (by2 f (b0 + 4))), .int (nI (by2 f (b0 + 6))), .int (nI (b0 + 8)), .int x4, .int co2, .int ap, .int ex, cd]) rfl hl_a rfl rfl (fun M5 h6 f7 z8 => ?_)
        have h9 := (f7 ac (ob_ne hl_ac hl_a (by decide))).trans hl_ac
        have h10 := (f7 b (ob_ne hl_b hl_a (by decide))).trans hl_b
        have h11 := (f7 da (Ne.symm (ob_ar hl_a hl_da))).trans hl_da
        have h12 := (f7 c (ob_ne hl_c hl_a (by decide))).trans hl_c
        have h13 := (f7 vd (ob_ne hl_vd hl_a (by decide))).trans hl_vd
        have hV14 := hV1.put hl_a (by decide) f7 z8
        have hF15 := hF1.up (by simp) f7 z8
        show pl _ _ _ (184, [(0, .ref ac), (1, .ref a), (2, .int (nI p)), (3, .int (nI i))], [], M5) _
        refine ps_st (S' := (185, [(0, .ref ac), (1, .ref a), (2, .int (nI p)), (3, .int (nI i))], [.int 1], M5)) rfl rfl rfl ?_
        exact ps_ret rfl rfl (Or.inl ⟨_, _, _, by rw [← hs9, show by2 f (b0 + 6) - i = 0 by omega]; rfl, rfl, h13, h9, h6, hF15⟩)
      · have c_17 : ¬ ((nI (by2 f (b0 + 6))) ≤ (nI i)) := of_decide_eq_false c_17
        have n_17 : ¬ (by2 f (b0 + 6) ≤ i) := fun h9 => c_17 ((le_nI (p := by2 f (b0 + 6)) (n := i) (Nat.lt_trans (by2_lt _ _) (by decide)) (by omega)).mpr h9)
        obtain ⟨hq5, hq6, hq7⟩ := s_atts_in (i := i) (p := p) ha (by omega)
        refine ps_st (S' := (21, [(0, .ref ac), (1, .ref a), (2, .int (nI p)), (3, .int (nI i))], [.ref ac], M1)) rfl rfl rfl ?_
        refine ps_get (S' := (24, [(0, .ref ac), (1, .ref a), (2, .int (nI p)), (3, .int (nI i))], [.ref q], M1)) rfl hl_ac rfl rfl ?_
        refine ps_st (S' := (25, [(0, .ref ac), (1, .ref a), (2, .int (nI p)), (3, .int (nI i))], [.ref ac, .ref q], M1)) rfl rfl rfl ?_
        refine ps_get (S' := (28, [(0, .ref ac), (1, .ref a), (2, .int (nI p)), (3, .int (nI i))], [.ref b, .ref q], M1)) rfl hl_ac rfl rfl ?_
        refine ps_st (S' := (29, [(0, .ref ac), (1, .ref a), (2, .int (nI p)), (3, .int (nI i))], [.int (nI p), .ref b, .ref q], M1)) rfl rfl rfl ?_
        refine pl_call (a := [.ref b, .int (nI p)]) (rest := [.ref q]) rfl rfl rfl (dk_u2 (f := f) (n := n) (b := b) (da := da) (p := p) hl_b hl_da (hn) (by omega)) (fun v16 M17 q18 => ?_)
        obtain ⟨rfl, rfl⟩ := q18
        show pl _ _ _ (32, [(0, .ref ac), (1, .ref a), (2, .int (nI p)), (3, .int (nI i))], [.int (nI (by2 f p)), .ref q], M1) _
        have hu_29 := by2_lt f p
        refine ps_st (S' := (34, [(0, .ref ac), (1, .ref a), (2, .int (nI p)), (3, .int (nI i))], [.ref (g.2.1 0), .int (nI (by2 f p)), .ref q], M1)) rfl rfl rfl ?_
        refine pl_call (a := [.ref q, .int (nI (by2 f p)), .ref (g.2.1 0)]) (rest := []) rfl rfl rfl (dy_textIs (f := f) (n := n) (N := N) (q := q) (E := E) (j := (by2 f p)) (k := 0) (hV1) (by2_lt _ _) (by decide)) (fun v19 M20 q21 => ?_)
        obtain ⟨rfl, rfl⟩ := q21
        show pl _ _ _ (37, [(0, .ref ac), (1, .ref a), (2, .int (nI p)), (3, .int (nI i))], [.int (nI (eqN (tX f n E (by2 f p)) (ltx 0)))], M1) _
        refine ps_if (S1 := (44, [(0, .ref ac), (1, .ref a), (2, .int (nI p)), (3, .int (nI i))], [], M1)) (S2 := (40, [(0, .ref ac), (1, .ref a), (2, .int (nI p)), (3, .int (nI i))], [], M1)) rfl rfl rfl (fun c_37 => ?_) (fun c_37 => ?_)
        · have c_37 : (nI (eqN (tX f n E (by2 f p)) (ltx 0))) = 0 := of_decide_eq_true c_37
          have n_37 : eqN (tX f n E (by2 f p)) (ltx 0) = 0 := (eq_nI (p := eqN (tX f n E (by2 f p)) (ltx 0)) (n := 0) (Nat.lt_trans (le1_eq _ _) (by decide)) (by decide)).mp c_37
          refine ps_st (S' := (45, [(0, .ref ac), (1, .ref a), (2, .int (nI p)), (3, .int (nI i))], [.int 0], M1)) rfl rfl rfl ?_
          refine ps_st (S' := (47, [(4, .int 0), (0, .ref ac), (1, .ref a), (2, .int (nI p)), (3, .int (nI i))], [], M1)) rfl rfl rfl ?_
          refine ps_st (S' := (48, [(4, .int 0), (0, .ref ac), (1, .ref a), (2, .int (nI p)), (3, .int (nI i))], [.ref ac], M1)) rfl rfl rfl ?_
          refine ps_st (S' := (49, [(4, .int 0), (0, .ref ac), (1, .ref a), (2, .int (nI p)), (3, .int (nI i))], [.int (nI p), .ref ac], M1)) rfl rfl rfl ?_
          refine ps_st (S' := (51, [(4, .int 0), (0, .ref ac), (1, .ref a), (2, .int (nI p)), (3, .int (nI i))], [.int 0, .int (nI p), .ref ac], M1)) rfl rfl rfl ?_
          have hk9 : fkN f n E (by2 f p) = 0 := by
            unfold fkN
            first | ((repeat first | rw [if_pos (by omega)] | rw [if_neg (by omega)]) <;> first | rfl | omega) | ((repeat' split) <;> first | rfl | (exfalso; omega) | omega)
          refine pl_call (a := [.ref ac, .int (nI p), .int 0]) (rest := []) rfl rfl rfl (dk_isNew (f := f) (n := n) (N := N) (q := q) (E := E) (ac := ac) (c := c) (b := b) (da := da) (vd := vd) (fr := fr) (mr := mr) (fa := fa) (ic := ic) (mj := mj) (na := na) (pa := pa) (mi := mi) (ru := ru) (wa := wa) (k1 := k1) (k2 := k2) (k3 := k3) (k4 := k4) (k5 := k5) (k6 := k6) (k7 := k7) (s := s2) (k := 0) (p := p) hl_ac hl_b hl_da hl_vd (hn) (by omega) (by omega) (by omega) (hV1)) (fun v22 M23 q24 => ?_)
          rcases q24 with q24 | q24
          · skip
            obtain ⟨e25, q51_s, rfl, h26, f27⟩ := q24
            have h29 := (f27.1 b (nin2 (ob_ne hl_b hl_ac (by decide)) (ob_ne hl_b hl_vd (by decide)))).trans hl_b
            have h30 := (f27.1 da (nin2 (Ne.symm (ob_ar hl_ac hl_da)) (Ne.symm (ob_ar hl_vd hl_da)))).trans hl_da
            have h31 := (f27.1 c (nin2 (ob_ne hl_c hl_ac (by decide)) (ob_ne hl_c hl_vd (by decide)))).trans hl_c
            have h32 := (f27.1 a (nin2 (ob_ne hl_a hl_ac (by decide)) (ob_ne hl_a hl_vd (by decide)))).trans hl_a
            have hF33 := hF1.tr f27 (by simp)
            have hV34 := hV1.keep f27.gm (n7c hl_ac (by decide) (n7c hl_vd (by decide) (n7nil)))
            show pl _ _ _ (54, [(4, .int 0), (0, .ref ac), (1, .ref a), (2, .int (nI p)), (3, .int (nI i))], [.int 0], M23) _
            refine ps_if (S1 := (59, [(4, .int 0), (0, .ref ac), (1, .ref a), (2, .int (nI p)), (3, .int (nI i))], [], M23)) (S2 := (57, [(4, .int 0), (0, .ref ac), (1, .ref a), (2, .int (nI p)), (3, .int (nI i))], [], M23)) rfl rfl rfl (fun c_54 => ?_) (fun c_54 => ?_)
            · exact absurd (of_decide_eq_true c_54) (by decide)
            refine ps_st (S' := (58, [(4, .int 0), (0, .ref ac), (1, .ref a), (2, .int (nI p)), (3, .int (nI i))], [.int 0], M23)) rfl rfl rfl ?_
            exact ps_ret rfl rfl (Or.inr ⟨e25, by
                rw [← hs9, faS_st (i := i) (by omega), hk9, q51_s], rfl, h26, hF33⟩)
          · skip
            obtain ⟨s'35, q51_s, q51_l, rfl, h36, h37, f38⟩ := q24
            have h40 := (f38.1 b (nin2 (ob_ne hl_b hl_ac (by decide)) (ob_ne hl_b hl_vd (by decide)))).trans hl_b
            have h41 := (f38.1 da (nin2 (Ne.symm (ob_ar hl_ac hl_da)) (Ne.symm (ob_ar hl_vd hl_da)))).trans hl_da
            have h42 := (f38.1 c (nin2 (ob_ne hl_c hl_ac (by decide)) (ob_ne hl_c hl_vd (by decide)))).trans hl_c
            have h43 := (f38.1 a (nin2 (ob_ne hl_a hl_ac (by decide)) (ob_ne hl_a hl_vd (by decide)))).trans hl_a
            have hF44 := hF1.tr f38 (by simp)
            have hV45 := hV1.keep f38.gm (n7c hl_ac (by decide) (n7c hl_vd (by decide) (n7nil)))
            show pl _ _ _ (54, [(4, .int 0), (0, .ref ac), (1, .ref a), (2, .int (nI p)), (3, .int (nI i))], [.int 1], M23) _
            refine ps_if (S1 := (59, [(4, .int 0), (0, .ref ac), (1, .ref a), (2, .int (nI p)), (3, .int (nI i))], [], M23)) (S2 := (57, [(4, .int 0), (0, .ref ac), (1, .ref a), (2, .int (nI p)), (3, .int (nI i))], [], M23)) rfl rfl rfl (fun c_54 => ?_) (fun c_54 => ?_)
            rotate_left
            · exact absurd (by decide) (of_decide_eq_false c_54)
            refine ps_st (S' := (61, [(4, .int 0), (0, .ref ac), (1, .ref a), (2, .int (nI p)), (3, .int (nI i))], [.int 0], M23)) rfl rfl rfl ?_
            refine ps_if (S1 := (98, [(0, .ref ac), (1, .ref a), (2, .int (nI p)), (3, .int (nI i)), (4, .int 0)], [], M23)) (S2 := (64, [(4, .int 0), (0, .ref ac), (1, .ref a), (2, .int (nI p)), (3, .int (nI i))], [], M23)) rfl rfl rfl (fun c_61 => ?_) (fun c_61 => ?_)
            rotate_left
            · exact absurd (by decide) (of_decide_eq_false c_61)
            refine ps_st (S' := (100, [(0, .ref ac), (1, .ref a), (2, .int (nI p)), (3, .int (nI i)), (4, .int 0)], [.int 0], M23)) rfl rfl rfl ?_
            refine ps_st (S' := (101, [(0, .ref ac), (1, .ref a), (2, .int (nI p)), (3, .int (nI i)), (4, .int 0)], [.int 1, .int 0], M23)) rfl rfl rfl ?_
            refine ps_if2 (S1 := (161, [(0, .ref ac), (1, .ref a), (2, .int (nI p)), (3, .int (nI i))], [], M23)) (S2 := (104, [(0, .ref ac), (1, .ref a), (2, .int (nI p)), (3, .int (nI i)), (4, .int 0)], [], M23)) rfl rfl rfl (fun c_101 => ?_) (fun c_101 => ?_)
            rotate_left
            · exact absurd (by decide) (of_decide_eq_false c_101)
            refine ps_st (S' := (162, [(0, .ref ac), (1, .ref a), (2, .int (nI p)), (3, .int (nI i))], [.ref ac], M23)) rfl rfl rfl ?_
            refine ps_st (S' := (163, [(0, .ref ac), (1, .ref a), (2, .int (nI p)), (3, .int (nI i))], [.int (nI p), .ref ac], M23)) rfl rfl rfl ?_
            refine pl_call (a := [.ref ac, .int (nI p)]) (rest := []) rfl rfl rfl (dk_behind (f := f) (n := n) (q := q) (ac := ac) (c := c) (b := b) (da := da) (vd := vd) (s1 := (nI s'35)) (p := p) h36 h40 h41 (hn) (by omega)) (fun v46 M47 q48 => ?_)
            obtain ⟨rfl, rfl⟩ := q48
            show pl _ _ _ (166, [(0, .ref ac), (1, .ref a), (2, .int (nI p)), (3, .int (nI i))], [.int (nI (p + 6 + by4 f (p + 2)))], M23) _
            refine ps_st (S' := (167, [(2, .int (nI (p + 6 + by4 f (p + 2)))), (0, .ref ac), (1, .ref a), (3, .int (nI i))], [], M23)) rfl rfl rfl ?_
            refine ps_st (S' := (170, [(3, .int ((nI i) + 1)), (2, .int (nI (p + 6 + by4 f (p + 2)))), (0, .ref ac), (1, .ref a)], [], M23)) rfl rfl rfl ?_
            rw [nI_add1 (p := i) (k := 1) (x := 1) rfl (by omega)]
            show pl _ _ _ (_, [(3, .int (nI (i + 1))), (2, .int (nI (p + 6 + by4 f (p + 2)))), (0, .ref ac), (1, .ref a)], [], M23) _
            refine ps_st (S' := (12, [(0, .ref ac), (1, .ref a), (2, .int (nI (p + 6 + by4 f (p + 2)))), (3, .int (nI (i + 1)))], [], M23)) rfl rfl rfl ?_
            exact ih (i + 1) (p + 6 + by4 f (p + 2)) ((s'35)) (kn2) (co2) M23 h36 h40 h41 h42 h37 h43 hV45 hF44 (by omega) (q51_l) (hq7) (by
                rw [← hs9, faS_st (i := i) (by omega), hk9, q51_s]
                dsimp only
                rw [if_neg (fun h => h.1 rfl), if_neg (fun h => h.1 rfl)])
        · have c_37 : ¬ ((nI (eqN (tX f n E (by2 f p)) (ltx 0))) = 0) := of_decide_eq_false c_37
          have n_37 : ¬ (eqN (tX f n E (by2 f p)) (ltx 0) = 0) := fun h9 => c_37 ((eq_nI (p := eqN (tX f n E (by2 f p)) (ltx 0)) (n := 0) (Nat.lt_trans (le1_eq _ _) (by decide)) (by decide)).mpr h9)
          refine ps_st (S' := (41, [(0, .ref ac), (1, .ref a), (2, .int (nI p)), (3, .int (nI i))], [.int 1], M1)) rfl rfl rfl ?_
          refine ps_st (S' := (45, [(0, .ref ac), (1, .ref a), (2, .int (nI p)), (3, .int (nI i))], [.int 1], M1)) rfl rfl rfl ?_
          refine ps_st (S' := (47, [(4, .int 1), (0, .ref ac), (1, .ref a), (2, .int (nI p)), (3, .int (nI i))], [], M1)) rfl rfl rfl ?_
          refine ps_st (S' := (48, [(4, .int 1), (0, .ref ac), (1, .ref a), (2, .int (nI p)), (3, .int (nI i))], [.ref ac], M1)) rfl rfl rfl ?_
          refine ps_st (S' := (49, [(4, .int 1), (0, .ref ac), (1, .ref a), (2, .int (nI p)), (3, .int (nI i))], [.int (nI p), .ref ac], M1)) rfl rfl rfl ?_
          refine ps_st (S' := (51, [(4, .int 1), (0, .ref ac), (1, .ref a), (2, .int (nI p)), (3, .int (nI i))], [.int 1, .int (nI p), .ref ac], M1)) rfl rfl rfl ?_
          have hk9 : fkN f n E (by2 f p) = 1 := by
            unfold fkN
            first | ((repeat first | rw [if_pos (by omega)] | rw [if_neg (by omega)]) <;> first | rfl | omega) | ((repeat' split) <;> first | rfl | (exfalso; omega) | omega)
          refine pl_call (a := [.ref ac, .int (nI p), .int 1]) (rest := []) rfl rfl rfl (dk_isNew (f := f) (n := n) (N := N) (q := q) (E := E) (ac := ac) (c := c) (b := b) (da := da) (vd := vd) (fr := fr) (mr := mr) (fa := fa) (ic := ic) (mj := mj) (na := na) (pa := pa) (mi := mi) (ru := ru) (wa := wa) (k1 := k1) (k2 := k2) (k3 := k3) (k4 := k4) (k5 := k5) (k6 := k6) (k7 := k7) (s := s2) (k := 1) (p := p) hl_ac hl_b hl_da hl_vd (hn) (by omega) (by omega) (by omega) (hV1)) (fun v49 M50 q51 => ?_)
          rcases q51 with q51 | q51
          · skip
            obtain ⟨e52, q51_s, rfl, h53, f54⟩ := q51
            have h56 := (f54.1 b (nin2 (ob_ne hl_b hl_ac (by decide)) (ob_ne hl_b hl_vd (by decide)))).trans hl_b
            have h57 := (f54.1 da (nin2 (Ne.symm (ob_ar hl_ac hl_da)) (Ne.symm (ob_ar hl_vd hl_da)))).trans hl_da
            have h58 := (f54.1 c (nin2 (ob_ne hl_c hl_ac (by decide)) (ob_ne hl_c hl_vd (by decide)))).trans hl_c
            have h59 := (f54.1 a (nin2 (ob_ne hl_a hl_ac (by decide)) (ob_ne hl_a hl_vd (by decide)))).trans hl_a
            have hF60 := hF1.tr f54 (by simp)
            have hV61 := hV1.keep f54.gm (n7c hl_ac (by decide) (n7c hl_vd (by decide) (n7nil)))
            show pl _ _ _ (54, [(4, .int 1), (0, .ref ac), (1, .ref a), (2, .int (nI p)), (3, .int (nI i))], [.int 0], M50) _
            refine ps_if (S1 := (59, [(4, .int 1), (0, .ref ac), (1, .ref a), (2, .int (nI p)), (3, .int (nI i))], [], M50)) (S2 := (57, [(4, .int 1), (0, .ref ac), (1, .ref a), (2, .int (nI p)), (3, .int (nI i))], [], M50)) rfl rfl rfl (fun c_54 => ?_) (fun c_54 => ?_)
            · exact absurd (of_decide_eq_true c_54) (by decide)
            refine ps_st (S' := (58, [(4, .int 1), (0, .ref ac), (1, .ref a), (2, .int (nI p)), (3, .int (nI i))], [.int 0], M50)) rfl rfl rfl ?_
            exact ps_ret rfl rfl (Or.inr ⟨e52, by
                rw [← hs9, faS_st (i := i) (by omega), hk9, q51_s], rfl, h53, hF60⟩)
          · skip
            obtain ⟨s'62, q51_s, q51_l, rfl, h63, h64, f65⟩ := q51
            have h67 := (f65.1 b (nin2 (ob_ne hl_b hl_ac (by decide)) (ob_ne hl_b hl_vd (by decide)))).trans hl_b
            have h68 := (f65.1 da (nin2 (Ne.symm (ob_ar hl_ac hl_da)) (Ne.symm (ob_ar hl_vd hl_da)))).trans hl_da
            have h69 := (f65.1 c (nin2 (ob_ne hl_c hl_ac (by decide)) (ob_ne hl_c hl_vd (by decide)))).trans hl_c
            have h70 := (f65.1 a (nin2 (ob_ne hl_a hl_ac (by decide)) (ob_ne hl_a hl_vd (by decide)))).trans hl_a
            have hF71 := hF1.tr f65 (by simp)
            have hV72 := hV1.keep f65.gm (n7c hl_ac (by decide) (n7c hl_vd (by decide) (n7nil)))
            show pl _ _ _ (54, [(4, .int 1), (0, .ref ac), (1, .ref a), (2, .int (nI p)), (3, .int (nI i))], [.int 1], M50) _
            refine ps_if (S1 := (59, [(4, .int 1), (0, .ref ac), (1, .ref a), (2, .int (nI p)), (3, .int (nI i))], [], M50)) (S2 := (57, [(4, .int 1), (0, .ref ac), (1, .ref a), (2, .int (nI p)), (3, .int (nI i))], [], M50)) rfl rfl rfl (fun c_54 => ?_) (fun c_54 => ?_)
            rotate_left
            · exact absurd (by decide) (of_decide_eq_false c_54)
            refine ps_st (S' := (61, [(4, .int 1), (0, .ref ac), (1, .ref a), (2, .int (nI p)), (3, .int (nI i))], [.int 1], M50)) rfl rfl rfl ?_
            refine ps_if (S1 := (98, [(0, .ref ac), (1, .ref a), (2, .int (nI p)), (3, .int (nI i)), (4, .int 1)], [], M50)) (S2 := (64, [(4, .int 1), (0, .ref ac), (1, .ref a), (2, .int (nI p)), (3, .int (nI i))], [], M50)) rfl rfl rfl (fun c_61 => ?_) (fun c_61 => ?_)
            · exact absurd (of_decide_eq_true c_61) (by decide)
            refine ps_st (S' := (65, [(4, .int 1), (0, .ref ac), (1, .ref a), (2, .int (nI p)), (3, .int (nI i))], [.ref ac], M50)) rfl rfl rfl ?_
            refine ps_st (S' := (67, [(4, .int 1), (0, .ref ac), (1, .ref a), (2, .int (nI p)), (3, .int (nI i))], [.int 1, .ref ac], M50)) rfl rfl rfl ?_
            refine ps_st (S' := (68, [(4, .int 1), (0, .ref ac), (1, .ref a), (2, .int (nI p)), (3, .int (nI i))], [.int (nI p), .int 1, .ref ac], M50)) rfl rfl rfl ?_
            refine ps_st (S' := (70, [(4, .int 1), (0, .ref ac), (1, .ref a), (2, .int (nI p)), (3, .int (nI i))], [.int 6, .int (nI p), .int 1, .ref ac], M50)) rfl rfl rfl ?_
            refine ps_st (S' := (71, [(4, .int 1), (0, .ref ac), (1, .ref a), (2, .int (nI p)), (3, .int (nI i))], [.int ((nI p) + 6), .int 1, .ref ac], M50)) rfl rfl rfl ?_
            rw [nI_add1 (p := p) (k := 6) (x := 6) rfl (by omega)]
            show pl _ _ _ (_, [(4, .int 1), (0, .ref ac), (1, .ref a), (2, .int (nI p)), (3, .int (nI i))], [.int (nI (p + 6)), .int 1, .ref ac], M50) _
            refine ps_st (S' := (72, [(4, .int 1), (0, .ref ac), (1, .ref a), (2, .int (nI p)), (3, .int (nI i))], [.ref ac, .int (nI (p + 6)), .int 1, .ref ac], M50)) rfl rfl rfl ?_
            refine ps_st (S' := (73, [(4, .int 1), (0, .ref ac), (1, .ref a), (2, .int (nI p)), (3, .int (nI i))], [.int (nI p), .ref ac, .int (nI (p + 6)), .int 1, .ref ac], M50)) rfl rfl rfl ?_
            refine pl_call (a := [.ref ac, .int (nI p)]) (rest := [.int (nI (p + 6)), .int 1, .ref ac]) rfl rfl rfl (dk_behind (f := f) (n := n) (q := q) (ac := ac) (c := c) (b := b) (da := da) (vd := vd) (s1 := (nI s'62)) (p := p) h63 h67 h68 (hn) (by omega)) (fun v73 M74 q75 => ?_)
            obtain ⟨rfl, rfl⟩ := q75
            show pl _ _ _ (76, [(4, .int 1), (0, .ref ac), (1, .ref a), (2, .int (nI p)), (3, .int (nI i))], [.int (nI (p + 6 + by4 f (p + 2))), .int (nI (p + 6)), .int 1, .ref ac], M50) _
            refine pl_call (a := [.ref ac, .int 1, .int (nI (p + 6)), .int (nI (p + 6 + by4 f (p + 2)))]) (rest := []) rfl rfl rfl (dk_formEnd (f := f) (n := n) (q := q) (ac := ac) (c := c) (b := b) (da := da) (vd := vd) (s1 := (nI s'62)) (k := 1) (p0 := (p + 6)) (e := (p + 6 + by4 f (p + 2))) h63 h67 h68 (hn) (by omega) (by omega)) (fun v76 M77 q78 => ?_)
            rcases q78 with q78 | q78
            · skip
              obtain ⟨q76_s, rfl, rfl⟩ := q78
              show pl _ _ _ (79, [(4, .int 1), (0, .ref ac), (1, .ref a), (2, .int (nI p)), (3, .int (nI i))], [.int (-1)], M50) _
              refine ps_st (S' := (80, [(4, .int 1), (0, .ref ac), (1, .ref a), (2, .int (nI p)), (3, .int (nI i))], [.ref ac, .int (-1)], M50)) rfl rfl rfl ?_
              refine ps_st (S' := (81, [(4, .int 1), (0, .ref ac), (1, .ref a), (2, .int (nI p)), (3, .int (nI i))], [.int (nI p), .ref ac, .int (-1)], M50)) rfl rfl rfl ?_
              refine pl_call (a := [.ref ac, .int (nI p)]) (rest := [.int (-1)]) rfl rfl rfl (dk_behind (f := f) (n := n) (q := q) (ac := ac) (c := c) (b := b) (da := da) (vd := vd) (s1 := (nI s'62)) (p := p) h63 h67 h68 (hn) (by omega)) (fun v79 M80 q81 => ?_)
              obtain ⟨rfl, rfl⟩ := q81
              show pl _ _ _ (84, [(4, .int 1), (0, .ref ac), (1, .ref a), (2, .int (nI p)), (3, .int (nI i))], [.int (nI (p + 6 + by4 f (p + 2))), .int (-1)], M50) _
              refine ps_if2 (S1 := (98, [(0, .ref ac), (1, .ref a), (2, .int (nI p)), (3, .int (nI i)), (4, .int 1)], [], M50)) (S2 := (87, [(4, .int 1), (0, .ref ac), (1, .ref a), (2, .int (nI p)), (3, .int (nI i))], [], M50)) rfl rfl rfl (fun c_84 => ?_) (fun c_84 => ?_)
              · exact absurd (of_decide_eq_true c_84) (m1_ne (by omega))
              have hfe : ¬ s_fe f 1 (p + 6) (p + 6 + by4 f (p + 2)) = some (p + 6 + by4 f (p + 2)) := by rw [q76_s]; exact fun h => by cases h
              refine ps_st (S' := (88, [(4, .int 1), (0, .ref ac), (1, .ref a), (2, .int (nI p)), (3, .int (nI i))], [.ref ac], M50)) rfl rfl rfl ?_
              refine ps_get (S' := (91, [(4, .int 1), (0, .ref ac), (1, .ref a), (2, .int (nI p)), (3, .int (nI i))], [.ref vd], M50)) rfl h63 rfl rfl ?_
              refine ps_st (S' := (93, [(4, .int 1), (0, .ref ac), (1, .ref a), (2, .int (nI p)), (3, .int (nI i))], [.int 30, .ref vd], M50)) rfl rfl rfl ?_
              refine ps_st (S' := (94, [(4, .int 1), (0, .ref ac), (1, .ref a), (2, .int (nI p)), (3, .int (nI i))], [.int (nI p), .int 30, .ref vd], M50)) rfl rfl rfl ?_
              refine pl_call (a := [.ref vd, .int 30, .int (nI p)]) (rest := []) rfl rfl rfl (dk_wrong (vd := vd) (ru := ru) (wa := wa) (x1 := 30) (x2 := (nI p)) h64) (fun v82 M83 q84 => ?_)
              obtain ⟨rfl, h85, f86⟩ := q84
              have h88 := (f86.1 ac (nin1 (ob_ne h63 h64 (by decide)))).trans h63
              have h89 := (f86.1 b (nin1 (ob_ne h67 h64 (by decide)))).trans h67
              have h90 := (f86.1 da (nin1 (Ne.symm (ob_ar h64 h68)))).trans h68
              have h91 := (f86.1 c (nin1 (ob_ne h69 h64 (by decide)))).trans h69
              have h92 := (f86.1 a (nin1 (ob_ne h70 h64 (by decide)))).trans h70
              have hF93 := hF71.tr f86 (by simp)
              have hV94 := hV72.keep f86.gm (n7c h64 (by decide) (n7nil))
              show pl _ _ _ (97, [(4, .int 1), (0, .ref ac), (1, .ref a), (2, .int (nI p)), (3, .int (nI i))], [.int 0], M83) _
              exact ps_ret rfl rfl (Or.inr ⟨(30, p), by
                  rw [← hs9, faS_st (i := i) (by omega), hk9, q51_s]
                  dsimp only
                  rw [if_pos ⟨by decide, hfe⟩], rfl, h85, hF93⟩)
            · skip
              obtain ⟨x95, q76_s, q76_l, rfl, rfl⟩ := q78
              show pl _ _ _ (79, [(4, .int 1), (0, .ref ac), (1, .ref a), (2, .int (nI p)), (3, .int (nI i))], [.int (nI x95)], M50) _
              refine ps_st (S' := (80, [(4, .int 1), (0, .ref ac), (1, .ref a), (2, .int (nI p)), (3, .int (nI i))], [.ref ac, .int (nI x95)], M50)) rfl rfl rfl ?_
              refine ps_st (S' := (81, [(4, .int 1), (0, .ref ac), (1, .ref a), (2, .int (nI p)), (3, .int (nI i))], [.int (nI p), .ref ac, .int (nI x95)], M50)) rfl rfl rfl ?_
              refine pl_call (a := [.ref ac, .int (nI p)]) (rest := [.int (nI x95)]) rfl rfl rfl (dk_behind (f := f) (n := n) (q := q) (ac := ac) (c := c) (b := b) (da := da) (vd := vd) (s1 := (nI s'62)) (p := p) h63 h67 h68 (hn) (by omega)) (fun v96 M97 q98 => ?_)
              obtain ⟨rfl, rfl⟩ := q98
              show pl _ _ _ (84, [(4, .int 1), (0, .ref ac), (1, .ref a), (2, .int (nI p)), (3, .int (nI i))], [.int (nI (p + 6 + by4 f (p + 2))), .int (nI x95)], M50) _
              refine ps_if2 (S1 := (98, [(0, .ref ac), (1, .ref a), (2, .int (nI p)), (3, .int (nI i)), (4, .int 1)], [], M50)) (S2 := (87, [(4, .int 1), (0, .ref ac), (1, .ref a), (2, .int (nI p)), (3, .int (nI i))], [], M50)) rfl rfl rfl (fun c_84 => ?_) (fun c_84 => ?_)
              · have c_84 : (nI x95) = (nI (p + 6 + by4 f (p + 2))) := of_decide_eq_true c_84
                have n_84 : x95 = p + 6 + by4 f (p + 2) := (eq_nI (p := x95) (n := p + 6 + by4 f (p + 2)) (by omega) (by omega)).mp c_84
                have hfe : s_fe f 1 (p + 6) (p + 6 + by4 f (p + 2)) = some (p + 6 + by4 f (p + 2)) := by rw [q76_s, n_84]
                have hb8 := (s_fe_in hfe).1
                refine ps_st (S' := (100, [(0, .ref ac), (1, .ref a), (2, .int (nI p)), (3, .int (nI i)), (4, .int 1)], [.int 1], M50)) rfl rfl rfl ?_
                refine ps_st (S' := (101, [(0, .ref ac), (1, .ref a), (2, .int (nI p)), (3, .int (nI i)), (4, .int 1)], [.int 1, .int 1], M50)) rfl rfl rfl ?_
                refine ps_if2 (S1 := (161, [(0, .ref ac), (1, .ref a), (2, .int (nI p)), (3, .int (nI i))], [], M50)) (S2 := (104, [(0, .ref ac), (1, .ref a), (2, .int (nI p)), (3, .int (nI i)), (4, .int 1)], [], M50)) rfl rfl rfl (fun c_101 => ?_) (fun c_101 => ?_)
                · exact absurd (of_decide_eq_true c_101) (by decide)
                refine ps_st (S' := (105, [(0, .ref ac), (1, .ref a), (2, .int (nI p)), (3, .int (nI i)), (4, .int 1)], [.ref a], M50)) rfl rfl rfl ?_
                refine ps_st (S' := (107, [(0, .ref ac), (1, .ref a), (2, .int (nI p)), (3, .int (nI i)), (4, .int 1)], [.int 8, .ref a], M50)) rfl rfl rfl ?_
                refine pl_call (a := [.ref a, .int 8]) (rest := []) rfl rfl rfl (dk_mhas (f := f) (a := a) (b0 := b0) (kn := kn2) (co := co2) (ap := ap) (ex := ex) (cd := cd) (x := 8) h70) (fun v99 M100 q101 => ?_)
                obtain ⟨rfl, rfl⟩ := q101
                show pl _ _ _ (110, [(0, .ref ac), (1, .ref a), (2, .int (nI p)), (3, .int (nI i)), (4, .int 1)], [.int (nI (hasN (by2 f b0) 8))], M50) _
                refine ps_if (S1 := (161, [(0, .ref ac), (1, .ref a), (2, .int (nI p)), (3, .int (nI i))], [], M50)) (S2 := (113, [(0, .ref ac), (1, .ref a), (2, .int (nI p)), (3, .int (nI i)), (4, .int 1)], [], M50)) rfl rfl rfl (fun c_110 => ?_) (fun c_110 => ?_)
                · have c_110 : (nI (hasN (by2 f b0) 8)) = 0 := of_decide_eq_true c_110
                  have n_110 : hasN (by2 f b0) 8 = 0 := (eq_nI (p := hasN (by2 f b0) 8) (n := 0) (Nat.lt_trans (le1_has _ _) (by decide)) (by decide)).mp c_110
                  refine ps_st (S' := (162, [(0, .ref ac), (1, .ref a), (2, .int (nI p)), (3, .int (nI i))], [.ref ac], M50)) rfl rfl rfl ?_
                  refine ps_st (S' := (163, [(0, .ref ac), (1, .ref a), (2, .int (nI p)), (3, .int (nI i))], [.int (nI p), .ref ac], M50)) rfl rfl rfl ?_
                  refine pl_call (a := [.ref ac, .int (nI p)]) (rest := []) rfl rfl rfl (dk_behind (f := f) (n := n) (q := q) (ac := ac) (c := c) (b := b) (da := da) (vd := vd) (s1 := (nI s'62)) (p := p) h63 h67 h68 (hn) (by omega)) (fun v102 M103 q104 => ?_)
                  obtain ⟨rfl, rfl⟩ := q104
                  show pl _ _ _ (166, [(0, .ref ac), (1, .ref a), (2, .int (nI p)), (3, .int (nI i))], [.int (nI (p + 6 + by4 f (p + 2)))], M50) _
                  refine ps_st (S' := (167, [(2, .int (nI (p + 6 + by4 f (p + 2)))), (0, .ref ac), (1, .ref a), (3, .int (nI i))], [], M50)) rfl rfl rfl ?_
                  refine ps_st (S' := (170, [(3, .int ((nI i) + 1)), (2, .int (nI (p + 6 + by4 f (p + 2)))), (0, .ref ac), (1, .ref a)], [], M50)) rfl rfl rfl ?_
                  rw [nI_add1 (p := i) (k := 1) (x := 1) rfl (by omega)]
                  show pl _ _ _ (_, [(3, .int (nI (i + 1))), (2, .int (nI (p + 6 + by4 f (p + 2)))), (0, .ref ac), (1, .ref a)], [], M50) _
                  refine ps_st (S' := (12, [(0, .ref ac), (1, .ref a), (2, .int (nI (p + 6 + by4 f (p + 2)))), (3, .int (nI (i + 1)))], [], M50)) rfl rfl rfl ?_
                  exact ih (i + 1) (p + 6 + by4 f (p + 2)) ((s'62)) (kn2) (co2) M50 h63 h67 h68 h69 h64 h70 hV72 hF71 (by omega) (q51_l) (hq7) (by
                      rw [← hs9, faS_st (i := i) (by omega), hk9, q51_s]
                      dsimp only
                      rw [if_neg (fun h => h.2 hfe)]
                      rw [if_neg (fun h => h.2.1 n_110)])
                · have c_110 : ¬ ((nI (hasN (by2 f b0) 8)) = 0) := of_decide_eq_false c_110
                  have n_110 : ¬ (hasN (by2 f b0) 8 = 0) := fun h9 => c_110 ((eq_nI (p := hasN (by2 f b0) 8) (n := 0) (Nat.lt_trans (le1_has _ _) (by decide)) (by decide)).mpr h9)
                  refine ps_st (S' := (114, [(0, .ref ac), (1, .ref a), (2, .int (nI p)), (3, .int (nI i)), (4, .int 1)], [.ref a], M50)) rfl rfl rfl ?_
                  refine ps_st (S' := (115, [(0, .ref ac), (1, .ref a), (2, .int (nI p)), (3, .int (nI i)), (4, .int 1)], [.ref ac, .ref a], M50)) rfl rfl rfl ?_
                  refine ps_get (S' := (118, [(0, .ref ac), (1, .ref a), (2, .int (nI p)), (3, .int (nI i)), (4, .int 1)], [.ref b, .ref a], M50)) rfl h63 rfl rfl ?_
                  refine ps_st (S' := (119, [(0, .ref ac), (1, .ref a), (2, .int (nI p)), (3, .int (nI i)), (4, .int 1)], [.int (nI p), .ref b, .ref a], M50)) rfl rfl rfl ?_
                  refine ps_st (S' := (121, [(0, .ref ac), (1, .ref a), (2, .int (nI p)), (3, .int (nI i)), (4, .int 1)], [.int 6, .int (nI p), .ref b, .ref a], M50)) rfl rfl rfl ?_
                  refine ps_st (S' := (122, [(0, .ref ac), (1, .ref a), (2, .int (nI p)), (3, .int (nI i)), (4, .int 1)], [.int ((nI p) + 6), .ref b, .ref a], M50)) rfl rfl rfl ?_
                  rw [nI_add1 (p := p) (k := 6) (x := 6) rfl (by omega)]
                  show pl _ _ _ (_, [(0, .ref ac), (1, .ref a), (2, .int (nI p)), (3, .int (nI i)), (4, .int 1)], [.int (nI (p + 6)), .ref b, .ref a], M50) _
                  refine pl_call (a := [.ref b, .int (nI (p + 6))]) (rest := [.ref a]) rfl rfl rfl (dk_u2 (f := f) (n := n) (b := b) (da := da) (p := (p + 6)) h67 h68 (hn) (by omega)) (fun v105 M106 q107 => ?_)
                  obtain ⟨rfl, rfl⟩ := q107
                  show pl _ _ _ (125, [(0, .ref ac), (1, .ref a), (2, .int (nI p)), (3, .int (nI i)), (4, .int 1)], [.int (nI (by2 f (p + 6))), .ref a], M50) _
                  have hu_122 := by2_lt f (p + 6)
                  refine ps_put (l' := [.int (nI b0), .int (nI (by2 f b0)), .int (nI (by2 f (b0 + 2))), .int (nI (by2 f (b0 + 4))), .int (nI (by2 f (b0 + 6))), .int (nI (b0 + 8)), .int kn2, .int (nI (by2 f (p + 6))), .int ap, .int ex, cd]) rfl h70 rfl rfl (fun M108 h109 f110 z111 => ?_)
                  have h112 := (f110 ac (ob_ne h63 h70 (by decide))).trans h63
                  have h113 := (f110 b (ob_ne h67 h70 (by decide))).trans h67
                  have h114 := (f110 da (Ne.symm (ob_ar h70 h68))).trans h68
                  have h115 := (f110 c (ob_ne h69 h70 (by decide))).trans h69
                  have h116 := (f110 vd (ob_ne h64 h70 (by decide))).trans h64
                  have hV117 := hV72.put h70 (by decide) f110 z111
                  have hF118 := hF71.up (by simp) f110 z111
                  show pl _ _ _ (128, [(0, .ref ac), (1, .ref a), (2, .int (nI p)), (3, .int (nI i)), (4, .int 1)], [], M108) _
                  refine ps_st (S' := (129, [(0, .ref ac), (1, .ref a), (2, .int (nI p)), (3, .int (nI i)), (4, .int 1)], [.ref ac], M108)) rfl rfl rfl ?_
                  refine ps_get (S' := (132, [(0, .ref ac), (1, .ref a), (2, .int (nI p)), (3, .int (nI i)), (4, .int 1)], [.ref q], M108)) rfl h112 rfl rfl ?_
                  refine ps_st (S' := (133, [(0, .ref ac), (1, .ref a), (2, .int (nI p)), (3, .int (nI i)), (4, .int 1)], [.ref a, .ref q], M108)) rfl rfl rfl ?_
                  refine ps_get (S' := (136, [(0, .ref ac), (1, .ref a), (2, .int (nI p)), (3, .int (nI i)), (4, .int 1)], [.int (nI (by2 f (p + 6))), .ref q], M108)) rfl h109 rfl rfl ?_
                  refine pl_call (a := [.ref q, .int (nI (by2 f (p + 6)))]) (rest := []) rfl rfl rfl (dy_tagOf (f := f) (n := n) (N := N) (q := q) (E := E) (j := (by2 f (p + 6))) (hV117) (by2_lt _ _)) (fun v119 M120 q121 => ?_)
                  obtain ⟨rfl, rfl⟩ := q121
                  show pl _ _ _ (139, [(0, .ref ac), (1, .ref a), (2, .int (nI p)), (3, .int (nI i)), (4, .int 1)], [.int (nI (tg f E (by2 f (p + 6))))], M108) _
                  refine ps_st (S' := (140, [(0, .ref ac), (1, .ref a), (2, .int (nI p)), (3, .int (nI i)), (4, .int 1)], [.ref ac, .int (nI (tg f E (by2 f (p + 6))))], M108)) rfl rfl rfl ?_
                  refine ps_st (S' := (141, [(0, .ref ac), (1, .ref a), (2, .int (nI p)), (3, .int (nI i)), (4, .int 1)], [.ref a, .ref ac, .int (nI (tg f E (by2 f (p + 6))))], M108)) rfl rfl rfl ?_
                  refine ps_get (S' := (144, [(0, .ref ac), (1, .ref a), (2, .int (nI p)), (3, .int (nI i)), (4, .int 1)], [.int (nI (by2 f (b0 + 4))), .ref ac, .int (nI (tg f E (by2 f (p + 6))))], M108)) rfl h109 rfl rfl ?_
                  refine pl_call (a := [.ref ac, .int (nI (by2 f (b0 + 4)))]) (rest := [.int (nI (tg f E (by2 f (p + 6))))]) rfl rfl rfl (dk_constantTag (f := f) (n := n) (N := N) (q := q) (E := E) (ac := ac) (c := c) (b := b) (da := da) (vd := vd) (fr := fr) (mr := mr) (fa := fa) (ic := ic) (mj := mj) (na := na) (pa := pa) (mi := mi) (ru := ru) (wa := wa) (s1 := (nI s'62)) (k1 := k1) (k2 := k2) (k3 := k3) (k4 := k4) (k5 := k5) (k6 := k6) (k7 := k7) (d := (by2 f (b0 + 4))) h112 h113 h114 (hn) (by2_lt _ _) (hV117)) (fun v122 M123 q124 => ?_)
                  rcases q124 with q124 | q124
                  · skip
                    obtain ⟨q144_s, rfl, rfl⟩ := q124
                    show pl _ _ _ (147, [(0, .ref ac), (1, .ref a), (2, .int (nI p)), (3, .int (nI i)), (4, .int 1)], [.int (-1), .int (nI (tg f E (by2 f (p + 6))))], M108) _
                    refine ps_if2 (S1 := (161, [(0, .ref ac), (1, .ref a), (2, .int (nI p)), (3, .int (nI i))], [], M108)) (S2 := (150, [(0, .ref ac), (1, .ref a), (2, .int (nI p)), (3, .int (nI i)), (4, .int 1)], [], M108)) rfl rfl rfl (fun c_147 => ?_) (fun c_147 => ?_)
                    · exact absurd (of_decide_eq_true c_147) (fun h9 => m1_ne (Nat.lt_trans (tg_lt _ _ _) (by decide)) h9.symm)
                    refine ps_st (S' := (151, [(0, .ref ac), (1, .ref a), (2, .int (nI p)), (3, .int (nI i)), (4, .int 1)], [.ref ac], M108)) rfl rfl rfl ?_
                    refine ps_get (S' := (154, [(0, .ref ac), (1, .ref a), (2, .int (nI p)), (3, .int (nI i)), (4, .int 1)], [.ref vd], M108)) rfl h112 rfl rfl ?_
                    refine ps_st (S' := (156, [(0, .ref ac), (1, .ref a), (2, .int (nI p)), (3, .int (nI i)), (4, .int 1)], [.int 31, .ref vd], M108)) rfl rfl rfl ?_
                    refine ps_st (S' := (157, [(0, .ref ac), (1, .ref a), (2, .int (nI p)), (3, .int (nI i)), (4, .int 1)], [.int (nI p), .int 31, .ref vd], M108)) rfl rfl rfl ?_
                    refine pl_call (a := [.ref vd, .int 31, .int (nI p)]) (rest := []) rfl rfl rfl (dk_wrong (vd := vd) (ru := ru) (wa := wa) (x1 := 31) (x2 := (nI p)) h116) (fun v125 M126 q127 => ?_)
                    obtain ⟨rfl, h128, f129⟩ := q127
                    have h131 := (f129.1 ac (nin1 (ob_ne h112 h116 (by decide)))).trans h112
                    have h132 := (f129.1 b (nin1 (ob_ne h113 h116 (by decide)))).trans h113
                    have h133 := (f129.1 da (nin1 (Ne.symm (ob_ar h116 h114)))).trans h114
                    have h134 := (f129.1 c (nin1 (ob_ne h115 h116 (by decide)))).trans h115
                    have h135 := (f129.1 a (nin1 (ob_ne h109 h116 (by decide)))).trans h109
                    have hF136 := hF118.tr f129 (by simp)
                    have hV137 := hV117.keep f129.gm (n7c h116 (by decide) (n7nil))
                    show pl _ _ _ (160, [(0, .ref ac), (1, .ref a), (2, .int (nI p)), (3, .int (nI i)), (4, .int 1)], [.int 0], M126) _
                    exact ps_ret rfl rfl (Or.inr ⟨(31, p), by
                        rw [← hs9, faS_st (i := i) (by omega), hk9, q51_s]
                        dsimp only
                        rw [if_neg (fun h => h.2 hfe)]
                        rw [if_pos ⟨by decide, n_110, by rw [q144_s]; exact fun h => by cases h⟩], rfl, h128, hF136⟩)
                  · skip
                    obtain ⟨x138, q144_s, q144_x, rfl, rfl⟩ := q124
                    show pl _ _ _ (147, [(0, .ref ac), (1, .ref a), (2, .int (nI p)), (3, .int (nI i)), (4, .int 1)], [.int (nI x138), .int (nI (tg f E (by2 f (p + 6))))], M108) _
                    refine ps_if2 (S1 := (161, [(0, .ref ac), (1, .ref a), (2, .int (nI p)), (3, .int (nI i))], [], M108)) (S2 := (150, [(0, .ref ac), (1, .ref a), (2, .int (nI p)), (3, .int (nI i)), (4, .int 1)], [], M108)) rfl rfl rfl (fun c_147 => ?_) (fun c_147 => ?_)
                    · have c_147 : (nI (tg f E (by2 f (p + 6)))) = (nI x138) := of_decide_eq_true c_147
                      have n_147 : tg f E (by2 f (p + 6)) = x138 := (eq_nI (p := tg f E (by2 f (p + 6))) (n := x138) (Nat.lt_trans (tg_lt _ _ _) (by decide)) (by omega)).mp c_147
                      refine ps_st (S' := (162, [(0, .ref ac), (1, .ref a), (2, .int (nI p)), (3, .int (nI i))], [.ref ac], M108)) rfl rfl rfl ?_
                      refine ps_st (S' := (163, [(0, .ref ac), (1, .ref a), (2, .int (nI p)), (3, .int (nI i))], [.int (nI p), .ref ac], M108)) rfl rfl rfl ?_
                      refine pl_call (a := [.ref ac, .int (nI p)]) (rest := []) rfl rfl rfl (dk_behind (f := f) (n := n) (q := q) (ac := ac) (c := c) (b := b) (da := da) (vd := vd) (s1 := (nI s'62)) (p := p) h112 h113 h114 (hn) (by omega)) (fun v139 M140 q141 => ?_)
                      obtain ⟨rfl, rfl⟩ := q141
                      show pl _ _ _ (166, [(0, .ref ac), (1, .ref a), (2, .int (nI p)), (3, .int (nI i))], [.int (nI (p + 6 + by4 f (p + 2)))], M108) _
                      refine ps_st (S' := (167, [(2, .int (nI (p + 6 + by4 f (p + 2)))), (0, .ref ac), (1, .ref a), (3, .int (nI i))], [], M108)) rfl rfl rfl ?_
                      refine ps_st (S' := (170, [(3, .int ((nI i) + 1)), (2, .int (nI (p + 6 + by4 f (p + 2)))), (0, .ref ac), (1, .ref a)], [], M108)) rfl rfl rfl ?_
                      rw [nI_add1 (p := i) (k := 1) (x := 1) rfl (by omega)]
                      show pl _ _ _ (_, [(3, .int (nI (i + 1))), (2, .int (nI (p + 6 + by4 f (p + 2)))), (0, .ref ac), (1, .ref a)], [], M108) _
                      refine ps_st (S' := (12, [(0, .ref ac), (1, .ref a), (2, .int (nI (p + 6 + by4 f (p + 2)))), (3, .int (nI (i + 1)))], [], M108)) rfl rfl rfl ?_
                      exact ih (i + 1) (p + 6 + by4 f (p + 2)) ((s'62)) (kn2) ((nI (by2 f (p + 6)))) M108 h112 h113 h114 h115 h116 h109 hV117 hF118 (by omega) (q51_l) (hq7) (by
                          rw [← hs9, faS_st (i := i) (by omega), hk9, q51_s]
                          dsimp only
                          rw [if_neg (fun h => h.2 hfe)]
                          rw [if_neg (fun h => h.2.2 (by rw [q144_s, n_147]))])
                    · have c_147 : ¬ ((nI (tg f E (by2 f (p + 6)))) = (nI x138)) := of_decide_eq_false c_147
                      have n_147 : ¬ (tg f E (by2 f (p + 6)) = x138) := fun h9 => c_147 ((eq_nI (p := tg f E (by2 f (p + 6))) (n := x138) (Nat.lt_trans (tg_lt _ _ _) (by decide)) (by omega)).mpr h9)
                      refine ps_st (S' := (151, [(0, .ref ac), (1, .ref a), (2, .int (nI p)), (3, .int (nI i)), (4, .int 1)], [.ref ac], M108)) rfl rfl rfl ?_
                      refine ps_get (S' := (154, [(0, .ref ac), (1, .ref a), (2, .int (nI p)), (3, .int (nI i)), (4, .int 1)], [.ref vd], M108)) rfl h112 rfl rfl ?_
                      refine ps_st (S' := (156, [(0, .ref ac), (1, .ref a), (2, .int (nI p)), (3, .int (nI i)), (4, .int 1)], [.int 31, .ref vd], M108)) rfl rfl rfl ?_
                      refine ps_st (S' := (157, [(0, .ref ac), (1, .ref a), (2, .int (nI p)), (3, .int (nI i)), (4, .int 1)], [.int (nI p), .int 31, .ref vd], M108)) rfl rfl rfl ?_
                      refine pl_call (a := [.ref vd, .int 31, .int (nI p)]) (rest := []) rfl rfl rfl (dk_wrong (vd := vd) (ru := ru) (wa := wa) (x1 := 31) (x2 := (nI p)) h116) (fun v142 M143 q144 => ?_)
                      obtain ⟨rfl, h145, f146⟩ := q144
                      have h148 := (f146.1 ac (nin1 (ob_ne h112 h116 (by decide)))).trans h112
                      have h149 := (f146.1 b (nin1 (ob_ne h113 h116 (by decide)))).trans h113
                      have h150 := (f146.1 da (nin1 (Ne.symm (ob_ar h116 h114)))).trans h114
                      have h151 := (f146.1 c (nin1 (ob_ne h115 h116 (by decide)))).trans h115
                      have h152 := (f146.1 a (nin1 (ob_ne h109 h116 (by decide)))).trans h109
                      have hF153 := hF118.tr f146 (by simp)
                      have hV154 := hV117.keep f146.gm (n7c h116 (by decide) (n7nil))
                      show pl _ _ _ (160, [(0, .ref ac), (1, .ref a), (2, .int (nI p)), (3, .int (nI i)), (4, .int 1)], [.int 0], M143) _
                      exact ps_ret rfl rfl (Or.inr ⟨(31, p), by
                          rw [← hs9, faS_st (i := i) (by omega), hk9, q51_s]
                          dsimp only
                          rw [if_neg (fun h => h.2 hfe)]
                          rw [if_pos ⟨by decide, n_110, by rw [q144_s]; exact fun h => n_147 (Option.some.inj h).symm⟩], rfl, h145, hF153⟩)
              · have c_84 : ¬ ((nI x95) = (nI (p + 6 + by4 f (p + 2)))) := of_decide_eq_false c_84
                have n_84 : ¬ (x95 = p + 6 + by4 f (p + 2)) := fun h9 => c_84 ((eq_nI (p := x95) (n := p + 6 + by4 f (p + 2)) (by omega) (by omega)).mpr h9)
                have hfe : ¬ s_fe f 1 (p + 6) (p + 6 + by4 f (p + 2)) = some (p + 6 + by4 f (p + 2)) := by rw [q76_s]; exact fun h => n_84 (Option.some.inj h)
                refine ps_st (S' := (88, [(4, .int 1), (0, .ref ac), (1, .ref a), (2, .int (nI p)), (3, .int (nI i))], [.ref ac], M50)) rfl rfl rfl ?_
                refine ps_get (S' := (91, [(4, .int 1), (0, .ref ac), (1, .ref a), (2, .int (nI p)), (3, .int (nI i))], [.ref vd], M50)) rfl h63 rfl rfl ?_
                refine ps_st (S' := (93, [(4, .int 1), (0, .ref ac), (1, .ref a), (2, .int (nI p)), (3, .int (nI i))], [.int 30, .ref vd], M50)) rfl rfl rfl ?_
                refine ps_st (S' := (94, [(4, .int 1), (0, .ref ac), (1, .ref a), (2, .int (nI p)), (3, .int (nI i))], [.int (nI p), .int 30, .ref vd], M50)) rfl rfl rfl ?_
                refine pl_call (a := [.ref vd, .int 30, .int (nI p)]) (rest := []) rfl rfl rfl (dk_wrong (vd := vd) (ru := ru) (wa := wa) (x1 := 30) (x2 := (nI p)) h64) (fun v155 M156 q157 => ?_)
                obtain ⟨rfl, h158, f159⟩ := q157
                have h161 := (f159.1 ac (nin1 (ob_ne h63 h64 (by decide)))).trans h63
                have h162 := (f159.1 b (nin1 (ob_ne h67 h64 (by decide)))).trans h67
                have h163 := (f159.1 da (nin1 (Ne.symm (ob_ar h64 h68)))).trans h68
                have h164 := (f159.1 c (nin1 (ob_ne h69 h64 (by decide)))).trans h69
                have h165 := (f159.1 a (nin1 (ob_ne h70 h64 (by decide)))).trans h70
                have hF166 := hF71.tr f159 (by simp)
                have hV167 := hV72.keep f159.gm (n7c h64 (by decide) (n7nil))
                show pl _ _ _ (97, [(4, .int 1), (0, .ref ac), (1, .ref a), (2, .int (nI p)), (3, .int (nI i))], [.int 0], M156) _
                exact ps_ret rfl rfl (Or.inr ⟨(30, p), by
                    rw [← hs9, faS_st (i := i) (by omega), hk9, q51_s]
                    dsimp only
                    rw [if_pos ⟨by decide, hfe⟩], rfl, h158, hF166⟩)
  refine ps_st (S' := (1, [(0, .ref ac), (1, .ref a)], [.ref ac], M)) rfl rfl rfl ?_
  refine ps_st (S' := (2, [(0, .ref ac), (1, .ref a)], [.int 0, .ref ac], M)) rfl rfl rfl ?_
  refine ps_put (l' := [.ref c, .ref b, .ref q, .ref vd, .int 0]) rfl h_ac rfl rfl (fun M168 h169 f170 z171 => ?_)
  have h172 := (f170 b (ob_ne h_b h_ac (by decide))).trans h_b
  have h173 := (f170 da (Ne.symm (ob_ar h_ac h_da))).trans h_da
  have h174 := (f170 c (ob_ne h_c h_ac (by decide))).trans h_c
  have h175 := (f170 vd (ob_ne h_vd h_ac (by decide))).trans h_vd
  have h176 := (f170 a (ob_ne h_a h_ac (by decide))).trans h_a
  have hV177 := hV.put h_ac (by decide) f170 z171
  have hF178 := hF.up (by simp) f170 z171
  show pl _ _ _ (5, [(0, .ref ac), (1, .ref a)], [], M168) _
  refine ps_st (S' := (6, [(0, .ref ac), (1, .ref a)], [.ref a], M168)) rfl rfl rfl ?_
  refine ps_get (S' := (9, [(0, .ref ac), (1, .ref a)], [.int (nI (b0 + 8))], M168)) rfl h176 rfl rfl ?_
  refine ps_st (S' := (10, [(2, .int (nI (b0 + 8))), (0, .ref ac), (1, .ref a)], [], M168)) rfl rfl rfl ?_
  refine ps_st (S' := (11, [(2, .int (nI (b0 + 8))), (0, .ref ac), (1, .ref a)], [.int 0], M168)) rfl rfl rfl ?_
  refine ps_st (S' := (12, [(0, .ref ac), (1, .ref a), (2, .int (nI (b0 + 8))), (3, .int 0)], [], M168)) rfl rfl rfl ?_
  exact (LL kf) (0) (b0 + 8) (0) (kn) (co) M168 h169 h172 h173 h174 h175 h176 hV177 hF178 (by omega) (by decide) (hat) (rfl)
set_option maxHeartbeats 1000000 in
theorem dk_ofMethod {g : xe_G} {M : mi_H} {f : Nat → Int32} {n N q : Nat} {E : List (Nat × Nat)} {ac c b da vd fr mr fa ic mj na pa : Nat} {mi ru wa s1 k1 k2 k3 k4 k5 k6 k7 : Int32} {a b0 e0 w : Nat} {kn co ex : Int32} (h_ac : M.1 ac = some (ob 0 [.ref c, .ref b, .ref q, .ref vd, .int s1])) (h_b : M.1 b = some (ob 1 [.ref da])) (h_da : M.1 da = some (ar .byte n f)) (h_c : M.1 c = some (ob 3 [.ref b, .ref q, .int mi, .int (nI mj), .int (nI fa), .int (nI ic), .ref fr, .ref mr, .int (nI na), .int (nI pa), .int k1, .int k2, .int k3, .int k4, .int k5, .int k6, .int k7])) (h_vd : M.1 vd = some (ob 10 [.int ru, .int wa])) (h_a : M.1 a = some (ob 6 [.int (nI b0), .int (nI (by2 f b0)), .int (nI (by2 f (b0 + 2))), .int (nI (by2 f (b0 + 4))), .int (nI (by2 f (b0 + 6))), .int (nI (b0 + 8)), .int kn, .int co, .int (nI w), .int ex, .null])) (hn : n ≤ 65540) (hmj : mj < 65536) (hb1 : b0 + 8 ≤ n) (hat : s_atts f n (by2 f (b0 + 6)) (b0 + 8) = .inr e0) (hw : w < 100000) (hV : PV g f n N E q M) (l_ac : ac < M.2.1) (l_c : c < M.2.1) (l_b : b < M.2.1) (l_da : da < M.2.1) (l_vd : vd < M.2.1) (l_a : a < M.2.1) (l_q : q < M.2.1) : pt (mT g) 40 [.ref ac, .ref a] M (fun v M' => (∃ (h : Nat) (s2 kn2 ex2 : Int32) (cd2 : Value), (maS f n E mj w (by2 f (b0 + 6)) (b0 + 8) 0 0 = .inr h) ∧ ((h = 0 ∧ cd2 = .null) ∨ (h = 1 ∧ ∃ z9, cd2 = .ref z9)) ∧ v = some (.int 1) ∧ M'.1 vd = some (ob 10 [.int ru, .int wa]) ∧ M'.1 ac = some (ob 0 [.ref c, .ref b, .ref q, .ref vd, .int s2]) ∧ M'.1 a = some (ob 6 [.int (nI b0), .int (nI (by2 f b0)), .int (nI (by2 f (b0 + 2))), .int (nI (by2 f (b0 + 4))), .int (nI (by2 f (b0 + 6))), .int (nI (b0 + 8)), .int kn2, .int co, .int (nI w), .int ex2, cd2]) ∧ gm [ac, vd, a] M M' ∧ M.2.1 ≤ M'.2.1) ∨ (∃ (e9 : Nat × Nat), (maS f n E mj w (by2 f (b0 + 6)) (b0 + 8) 0 0 = .inl e9) ∧ v = some (.int 0) ∧ M'.1 vd = some (ob 10 [.int (nI e9.1), .int (nI e9.2)]) ∧ gm [ac, vd, a] M M' ∧ M.2.1 ≤ M'.2.1)) := by
  refine pt_in (b := mb_40 g) rfl (fun kf => ?_)
  show pl (mT g) kf (mb_40 g).2 (0, [(0, .ref ac), (1, .ref a)], [], M) _
  have hF : gm [ac, vd, a] M M := gm.rf
  obtain ⟨z0, tp0⟩ : ∃ z0, M.2.1 = z0 := ⟨_, rfl⟩
  have LL : ∀ (kf : Nat), (∀ (i p s2 h t1 : Nat) (kn2 ex2 : Int32) (cd2 : Value) (M1 : mi_H), (M1.1 ac = some (ob 0 [.ref c, .ref b, .ref q, .ref vd, .int (nI s2)])) → (M1.1 b = some (ob 1 [.ref da])) → (M1.1 da = some (ar .byte n f)) → (M1.1 c = some (ob 3 [.ref b, .ref q, .int mi, .int (nI mj), .int (nI fa), .int (nI ic), .ref fr, .ref mr, .int (nI na), .int (nI pa), .int k1, .int k2, .int k3, .int k4, .int k5, .int k6, .int k7])) → (M1.1 vd = some (ob 10 [.int ru, .int wa])) → (M1.1 a = some (ob 6 [.int (nI b0), .int (nI (by2 f b0)), .int (nI (by2 f (b0 + 2))), .int (nI (by2 f (b0 + 4))), .int (nI (by2 f (b0 + 6))), .int (nI (b0 + 8)), .int kn2, .int co, .int (nI w), .int ex2, cd2])) → (PV g f n N E q M1) → (gm [ac, vd, a] M M1) → (M1.2.1 = t1) → (z0 ≤ t1) → (i ≤ by2 f (b0 + 6)) → (s2 < 2048) → ((h = 0 ∧ cd2 = .null) ∨ (h = 1 ∧ ∃ z9, cd2 = .ref z9)) → (s_atts f n (by2 f (b0 + 6) - i) p = .inr e0) → (maS f n E mj w (by2 f (b0 + 6) - i) p s2 h = maS f n E mj w (by2 f (b0 + 6)) (b0 + 8) 0 0) →  pl (mT g) kf (mb_40 g).2 (12, [(0, .ref ac), (1, .ref a), (2, .int (nI p)), (3, .int (nI i))], [], M1) (fun v M' => (∃ (h : Nat) (s2 kn2 ex2 : Int32) (cd2 : Value), (maS f n E mj w (by2 f (b0 + 6)) (b0 + 8) 0 0 = .inr h) ∧ ((h = 0 ∧ cd2 = .null) ∨ (h = 1 ∧ ∃ z9, cd2 = .ref z9)) ∧ v = some (.int 1) ∧ M'.1 vd = some (ob 10 [.int ru, .int wa]) ∧ M'.1 ac = some (ob 0 [.ref c, .ref b, .ref q, .ref vd, .int s2]) ∧ M'.1 a = some (ob 6 [.int (nI b0), .int (nI (by2 f b0)), .int (nI (by2 f (b0 + 2))), .int (nI (by2 f (b0 + 4))), .int (nI (by2 f (b0 + 6))), .int (nI (b0 + 8)), .int kn2, .int co, .int (nI w), .int ex2, cd2]) ∧ gm [ac, vd, a] M M' ∧ M.2.1 ≤ M'.2.1) ∨ (∃ (e9 : Nat × Nat), (maS f n E mj w (by2 f (b0 + 6)) (b0 + 8) 0 0 = .inl e9) ∧ v = some (.int 0) ∧ M'.1 vd = some (ob 10 [.int (nI e9.1), .int (nI e9.2)]) ∧ gm [ac, vd, a] M M' ∧ M.2.1 ≤ M'.2.1))) := by
    intro kf
    induction kf with
    | zero => exact (by intros; exact pl_0)
    | succ kf ih =>
      intro i p s2 h t1 kn2 ex2 cd2 M1 hl_ac hl_b hl_da hl_c hl_vd hl_a hV1 hF1 tp1 ht hi hl hh ha hs9
      have hu9 := by2_lt f (b0 + 6)
      refine ps_st1 (S' := (13, [(0, .ref ac), (1, .ref a), (2, .int (nI p)), (3, .int (nI i))], [.int (nI i)], M1)) rfl rfl rfl ?_
      refine ps_st (S' := (14, [(0, .ref ac), (1, .ref a), (2, .int (nI p)), (3, .int (nI i))], [.ref a, .int (nI i)], M1)) rfl rfl rfl ?_
      refine ps_get (S' := (17, [(0, .ref ac), (1, .ref a), (2, .int (nI p)), (3, .int (nI i))], [.int (nI (by2 f (b0 + 6))), .int (nI i)], M1)) rfl hl_a rfl rfl ?_
      refine ps_if2 (S1 := (154, [(0, .ref ac), (1, .ref a), (2, .int (nI p)), (3, .int (nI i))], [], M1)) (S2 := (20, [(0, .ref ac), (1, .ref a), (2, .int (nI p)), (3, .int (nI i))], [], M1)) rfl rfl rfl (fun c_17 => ?_) (fun c_17 => ?_)
      · have c_17 : (nI (by2 f (b0 + 6))) ≤ (nI i) := of_decide_eq_true c_17
        have n_17 : by2 f (b0 + 6) ≤ i := (le_nI (p := by2 f (b0 + 6)) (n := i) (Nat.lt_trans (by2_lt _ _) (by decide)) (by omega)).mp c_17
        refine ps_st (S' := (155, [(0, .ref ac), (1, .ref a), (2, .int (nI p)), (3, .int (nI i))], [.ref a], M1)) rfl rfl rfl ?_
        refine ps_st (S' := (156, [(0, .ref ac), (1, .ref a), (2, .int (nI p)), (3, .int (nI i))], [.ref ac, .ref a], M1)) rfl rfl rfl ?_
        refine ps_get (S' := (159, [(0, .ref ac), (1, .ref a), (2, .int (nI p)), (3, .int (nI i))], [.int (nI s2), .ref a], M1)) rfl hl_ac rfl rfl ?_
        refine ps_st (S' := (161, [(0, .ref ac), (1, .ref a), (2, .int (nI p)), (3, .int (nI i))], [.int 12, .int (nI s2), .ref a], M1)) rfl rfl rfl ?_
        refine ps_st (S' := (162, [(0, .ref ac), (1, .ref a), (2, .int (nI p)), (3, .int (nI i))], [.int ((nI s2) &&& 12), .ref a], M1)) rfl rfl rfl ?_
        rw [nI_an (p := s2) (k := 12) (x := 12) rfl]
        show pl _ _ _ (_, [(0, .ref ac), (1, .ref a), (2, .int (nI p)), (3, .int (nI i))], [.int (nI (aN s2 12)), .ref a], M1) _
        refine pl_call (a := [.int (nI (aN s2 12))]) (rest := [.ref a]) rfl rfl rfl (dk_bitCountA (y := (nI (aN s2 12)))) (fun v1 M2 q3 => ?_)
        obtain ⟨x4, rfl, rfl⟩ := q3
        show pl _ _ _ (165, [(0, .ref ac), (1, .ref a), (2, .int (nI p)), (3, .int (nI i))], [.int x4, .ref a], M1) _
        refine ps_put (l' := [.int (nI b0), .int (nI (by2 f b0)), .int (nI (by2 f (b0 + 2))), .int (nI (by2 f (b0 + 4))), .int (nI (by2 f (b0 + 6))), .int (nI (b0 + 8)), .int x4, .int co, .int (nI w), .int ex2, cd2]) rfl hl_a rfl rfl (fun M5 h6 f7 z8 => ?_)
        have h9 := (f7 ac (ob_ne hl_ac hl_a (by decide))).trans hl_ac
        have h10 := (f7 b (ob_ne hl_b hl_a (by decide))).trans hl_b
        have h11 := (f7 da (Ne.symm (ob_ar hl_a hl_da))).trans hl_da
        have h12 := (f7 c (ob_ne hl_c hl_a (by decide))).trans hl_c
        have h13 := (f7 vd (ob_ne hl_vd hl_a (by decide))).trans hl_vd
        have hV14 := hV1.put hl_a (by decide) f7 z8
        have hF15 := hF1.up (Or.inl (by simp)) f7 (by rw [z8]; exact Nat.le_refl _)
        have tp16 : M5.2.1 = t1 := by rw [z8]; exact tp1
        show pl _ _ _ (168, [(0, .ref ac), (1, .ref a), (2, .int (nI p)), (3, .int (nI i))], [], M5) _
        refine ps_st (S' := (169, [(0, .ref ac), (1, .ref a), (2, .int (nI p)), (3, .int (nI i))], [.int 1], M5)) rfl rfl rfl ?_
        exact ps_ret rfl rfl (Or.inl ⟨h, _, _, _, _, by rw [← hs9, show by2 f (b0 + 6) - i = 0 by omega]; rfl, hh, rfl, h13, h9, h6, hF15, hF15.2⟩)
      · have c_17 : ¬ ((nI (by2 f (b0 + 6))) ≤ (nI i)) := of_decide_eq_false c_17
        have n_17 : ¬ (by2 f (b0 + 6) ≤ i) := fun h9 => c_17 ((le_nI (p := by2 f (b0 + 6)) (n := i) (Nat.lt_trans (by2_lt _ _) (by decide)) (by omega)).mpr h9)
        obtain ⟨hq5, hq6, hq7⟩ := s_atts_in (i := i) (p := p) ha (by omega)
        refine ps_st (S' := (21, [(0, .ref ac), (1, .ref a), (2, .int (nI p)), (3, .int (nI i))], [.ref ac], M1)) rfl rfl rfl ?_
        refine ps_st (S' := (22, [(0, .ref ac), (1, .ref a), (2, .int (nI p)), (3, .int (nI i))], [.ref ac, .ref ac], M1)) rfl rfl rfl ?_
        refine ps_get (S' := (25, [(0, .ref ac), (1, .ref a), (2, .int (nI p)), (3, .int (nI i))], [.ref b, .ref ac], M1)) rfl hl_ac rfl rfl ?_
        refine ps_st (S' := (26, [(0, .ref ac), (1, .ref a), (2, .int (nI p)), (3, .int (nI i))], [.int (nI p), .ref b, .ref ac], M1)) rfl rfl rfl ?_
        refine pl_call (a := [.ref b, .int (nI p)]) (rest := [.ref ac]) rfl rfl rfl (dk_u2 (f := f) (n := n) (b := b) (da := da) (p := p) hl_b hl_da (hn) (by omega)) (fun v17 M18 q19 => ?_)
        obtain ⟨rfl, rfl⟩ := q19
        show pl _ _ _ (29, [(0, .ref ac), (1, .ref a), (2, .int (nI p)), (3, .int (nI i))], [.int (nI (by2 f p)), .ref ac], M1) _
        have hu_26 := by2_lt f p
        refine pl_call (a := [.ref ac, .int (nI (by2 f p))]) (rest := []) rfl rfl rfl (dk_methodKind (f := f) (n := n) (N := N) (q := q) (E := E) (ac := ac) (c := c) (b := b) (da := da) (vd := vd) (fr := fr) (mr := mr) (fa := fa) (ic := ic) (mj := mj) (na := na) (pa := pa) (mi := mi) (ru := ru) (wa := wa) (s1 := (nI s2)) (k1 := k1) (k2 := k2) (k3 := k3) (k4 := k4) (k5 := k5) (k6 := k6) (k7 := k7) (x := (by2 f p)) hl_ac hl_b hl_da (hn) (by2_lt _ _) (hV1)) (fun v20 M21 q22 => ?_)
        obtain ⟨rfl, rfl⟩ := q22
        show pl _ _ _ (32, [(0, .ref ac), (1, .ref a), (2, .int (nI p)), (3, .int (nI i))], [.int (nI (mkN f n E (by2 f p)))], M1) _
        have hk8 := le_mk f n E (by2 f p)
        refine ps_st (S' := (34, [(4, .int (nI (mkN f n E (by2 f p)))), (0, .ref ac), (1, .ref a), (2, .int (nI p)), (3, .int (nI i))], [], M1)) rfl rfl rfl ?_
        refine ps_st (S' := (35, [(4, .int (nI (mkN f n E (by2 f p)))), (0, .ref ac), (1, .ref a), (2, .int (nI p)), (3, .int (nI i))], [.ref ac], M1)) rfl rfl rfl ?_
        refine ps_st (S' := (36, [(4, .int (nI (mkN f n E (by2 f p)))), (0, .ref ac), (1, .ref a), (2, .int (nI p)), (3, .int (nI i))], [.int (nI p), .ref ac], M1)) rfl rfl rfl ?_
        refine ps_st (S' := (38, [(4, .int (nI (mkN f n E (by2 f p)))), (0, .ref ac), (1, .ref a), (2, .int (nI p)), (3, .int (nI i))], [.int (nI (mkN f n E (by2 f p))), .int (nI p), .ref ac], M1)) rfl rfl rfl ?_
        refine pl_call (a := [.ref ac, .int (nI p), .int (nI (mkN f n E (by2 f p)))]) (rest := []) rfl rfl rfl (dk_isNew (f := f) (n := n) (N := N) (q := q) (E := E) (ac := ac) (c := c) (b := b) (da := da) (vd := vd) (fr := fr) (mr := mr) (fa := fa) (ic := ic) (mj := mj) (na := na) (pa := pa) (mi := mi) (ru := ru) (wa := wa) (k1 := k1) (k2 := k2) (k3 := k3) (k4 := k4) (k5 := k5) (k6 := k6) (k7 := k7) (s := s2) (k := (mkN f n E (by2 f p))) (p := p) hl_ac hl_b hl_da hl_vd (hn) (by omega) (by omega) (by omega) (hV1)) (fun v23 M24 q25 => ?_)
        rcases q25 with q25 | q25
        · skip
          obtain ⟨e26, q38_s, rfl, h27, f28⟩ := q25
          have h30 := (f28.1 b (nin2 (ob_ne hl_b hl_ac (by decide)) (ob_ne hl_b hl_vd (by decide)))).trans hl_b
          have h31 := (f28.1 da (nin2 (Ne.symm (ob_ar hl_ac hl_da)) (Ne.symm (ob_ar hl_vd hl_da)))).trans hl_da
          have h32 := (f28.1 c (nin2 (ob_ne hl_c hl_ac (by decide)) (ob_ne hl_c hl_vd (by decide)))).trans hl_c
          have h33 := (f28.1 a (nin2 (ob_ne hl_a hl_ac (by decide)) (ob_ne hl_a hl_vd (by decide)))).trans hl_a
          have hF34 := hF1.trf f28 (by intro z hz; simp only [List.mem_cons, List.not_mem_nil, or_false] at hz ⊢; try omega)
          have tp35 : M24.2.1 = t1 := by rw [f28.2]; exact tp1
          have hV36 := hV1.keep f28.gm (n7c hl_ac (by decide) (n7c hl_vd (by decide) (n7nil)))
          show pl _ _ _ (41, [(4, .int (nI (mkN f n E (by2 f p)))), (0, .ref ac), (1, .ref a), (2, .int (nI p)), (3, .int (nI i))], [.int 0], M24) _
          refine ps_if (S1 := (46, [(4, .int (nI (mkN f n E (by2 f p)))), (0, .ref ac), (1, .ref a), (2, .int (nI p)), (3, .int (nI i))], [], M24)) (S2 := (44, [(4, .int (nI (mkN f n E (by2 f p)))), (0, .ref ac), (1, .ref a), (2, .int (nI p)), (3, .int (nI i))], [], M24)) rfl rfl rfl (fun c_41 => ?_) (fun c_41 => ?_)
          · exact absurd (of_decide_eq_true c_41) (by decide)
          refine ps_st (S' := (45, [(4, .int (nI (mkN f n E (by2 f p)))), (0, .ref ac), (1, .ref a), (2, .int (nI p)), (3, .int (nI i))], [.int 0], M24)) rfl rfl rfl ?_
          exact ps_ret rfl rfl (Or.inr ⟨e26, by
              rw [← hs9, maS_st (i := i) (by omega), q38_s], rfl, h27, hF34, hF34.2⟩)
        · skip
          obtain ⟨s'37, q38_s, q38_l, rfl, h38, h39, f40⟩ := q25
          have h42 := (f40.1 b (nin2 (ob_ne hl_b hl_ac (by decide)) (ob_ne hl_b hl_vd (by decide)))).trans hl_b
          have h43 := (f40.1 da (nin2 (Ne.symm (ob_ar hl_ac hl_da)) (Ne.symm (ob_ar hl_vd hl_da)))).trans hl_da
          have h44 := (f40.1 c (nin2 (ob_ne hl_c hl_ac (by decide)) (ob_ne hl_c hl_vd (by decide)))).trans hl_c
          have h45 := (f40.1 a (nin2 (ob_ne hl_a hl_ac (by decide)) (ob_ne hl_a hl_vd (by decide)))).trans hl_a
          have hF46 := hF1.trf f40 (by intro z hz; simp only [List.mem_cons, List.not_mem_nil, or_false] at hz ⊢; try omega)
          have tp47 : M24.2.1 = t1 := by rw [f40.2]; exact tp1
          have hV48 := hV1.keep f40.gm (n7c hl_ac (by decide) (n7c hl_vd (by decide) (n7nil)))
          show pl _ _ _ (41, [(4, .int (nI (mkN f n E (by2 f p)))), (0, .ref ac), (1, .ref a), (2, .int (nI p)), (3, .int (nI i))], [.int 1], M24) _
          refine ps_if (S1 := (46, [(4, .int (nI (mkN f n E (by2 f p)))), (0, .ref ac), (1, .ref a), (2, .int (nI p)), (3, .int (nI i))], [], M24)) (S2 := (44, [(4, .int (nI (mkN f n E (by2 f p)))), (0, .ref ac), (1, .ref a), (2, .int (nI p)), (3, .int (nI i))], [], M24)) rfl rfl rfl (fun c_41 => ?_) (fun c_41 => ?_)
          rotate_left
          · exact absurd (by decide) (of_decide_eq_false c_41)
          refine ps_st (S' := (48, [(4, .int (nI (mkN f n E (by2 f p)))), (0, .ref ac), (1, .ref a), (2, .int (nI p)), (3, .int (nI i))], [.int (nI (mkN f n E (by2 f p)))], M24)) rfl rfl rfl ?_
          refine ps_if (S1 := (85, [(0, .ref ac), (1, .ref a), (2, .int (nI p)), (3, .int (nI i)), (4, .int (nI (mkN f n E (by2 f p))))], [], M24)) (S2 := (51, [(4, .int (nI (mkN f n E (by2 f p)))), (0, .ref ac), (1, .ref a), (2, .int (nI p)), (3, .int (nI i))], [], M24)) rfl rfl rfl (fun c_48 => ?_) (fun c_48 => ?_)
          · have c_48 : (nI (mkN f n E (by2 f p))) = 0 := of_decide_eq_true c_48
            have n_48 : mkN f n E (by2 f p) = 0 := (eq_nI (p := mkN f n E (by2 f p)) (n := 0) (Nat.lt_trans (le_mk _ _ _ _) (by decide)) (by decide)).mp c_48
            refine ps_st (S' := (87, [(0, .ref ac), (1, .ref a), (2, .int (nI p)), (3, .int (nI i)), (4, .int (nI (mkN f n E (by2 f p))))], [.int (nI (mkN f n E (by2 f p)))], M24)) rfl rfl rfl ?_
            refine ps_st (S' := (88, [(0, .ref ac), (1, .ref a), (2, .int (nI p)), (3, .int (nI i)), (4, .int (nI (mkN f n E (by2 f p))))], [.int 2, .int (nI (mkN f n E (by2 f p)))], M24)) rfl rfl rfl ?_
            refine ps_if2 (S1 := (102, [(0, .ref ac), (1, .ref a), (2, .int (nI p)), (3, .int (nI i)), (4, .int (nI (mkN f n E (by2 f p))))], [], M24)) (S2 := (91, [(0, .ref ac), (1, .ref a), (2, .int (nI p)), (3, .int (nI i)), (4, .int (nI (mkN f n E (by2 f p))))], [], M24)) rfl rfl rfl (fun c_88 => ?_) (fun c_88 => ?_)
            rotate_left
            · exact absurd (show ¬ ((nI (mkN f n E (by2 f p))) = 2) from fun h9 => absurd ((eq_nI (p := mkN f n E (by2 f p)) (n := 2) (Nat.lt_trans (le_mk _ _ _ _) (by decide)) (by decide)).mp h9) (by omega)) (of_decide_eq_false c_88)
            refine ps_st (S' := (104, [(0, .ref ac), (1, .ref a), (2, .int (nI p)), (3, .int (nI i)), (4, .int (nI (mkN f n E (by2 f p))))], [.int (nI (mkN f n E (by2 f p)))], M24)) rfl rfl rfl ?_
            refine ps_st (S' := (105, [(0, .ref ac), (1, .ref a), (2, .int (nI p)), (3, .int (nI i)), (4, .int (nI (mkN f n E (by2 f p))))], [.int 3, .int (nI (mkN f n E (by2 f p)))], M24)) rfl rfl rfl ?_
            refine ps_if2 (S1 := (142, [(0, .ref ac), (1, .ref a), (2, .int (nI p)), (3, .int (nI i))], [], M24)) (S2 := (108, [(0, .ref ac), (1, .ref a), (2, .int (nI p)), (3, .int (nI i)), (4, .int (nI (mkN f n E (by2 f p))))], [], M24)) rfl rfl rfl (fun c_105 => ?_) (fun c_105 => ?_)
            rotate_left
            · exact absurd (show ¬ ((nI (mkN f n E (by2 f p))) = 3) from fun h9 => absurd ((eq_nI (p := mkN f n E (by2 f p)) (n := 3) (Nat.lt_trans (le_mk _ _ _ _) (by decide)) (by decide)).mp h9) (by omega)) (of_decide_eq_false c_105)
            refine ps_st (S' := (143, [(0, .ref ac), (1, .ref a), (2, .int (nI p)), (3, .int (nI i))], [.ref ac], M24)) rfl rfl rfl ?_
            refine ps_st (S' := (144, [(0, .ref ac), (1, .ref a), (2, .int (nI p)), (3, .int (nI i))], [.int (nI p), .ref ac], M24)) rfl rfl rfl ?_
            refine pl_call (a := [.ref ac, .int (nI p)]) (rest := []) rfl rfl rfl (dk_behind (f := f) (n := n) (q := q) (ac := ac) (c := c) (b := b) (da := da) (vd := vd) (s1 := (nI s'37)) (p := p) h38 h42 h43 (hn) (by omega)) (fun v49 M50 q51 => ?_)
            obtain ⟨rfl, rfl⟩ := q51
            show pl _ _ _ (147, [(0, .ref ac), (1, .ref a), (2, .int (nI p)), (3, .int (nI i))], [.int (nI (p + 6 + by4 f (p + 2)))], M24) _
            refine ps_st (S' := (148, [(2, .int (nI (p + 6 + by4 f (p + 2)))), (0, .ref ac), (1, .ref a), (3, .int (nI i))], [], M24)) rfl rfl rfl ?_
            refine ps_st (S' := (151, [(3, .int ((nI i) + 1)), (2, .int (nI (p + 6 + by4 f (p + 2)))), (0, .ref ac), (1, .ref a)], [], M24)) rfl rfl rfl ?_
            rw [nI_add1 (p := i) (k := 1) (x := 1) rfl (by omega)]
            show pl _ _ _ (_, [(3, .int (nI (i + 1))), (2, .int (nI (p + 6 + by4 f (p + 2)))), (0, .ref ac), (1, .ref a)], [], M24) _
            refine ps_st (S' := (12, [(0, .ref ac), (1, .ref a), (2, .int (nI (p + 6 + by4 f (p + 2)))), (3, .int (nI (i + 1)))], [], M24)) rfl rfl rfl ?_
            exact ih (i + 1) (p + 6 + by4 f (p + 2)) ((s'37)) (h) (t1) (kn2) (ex2) (cd2) M24 h38 h42 h43 h44 h39 h45 hV48 hF46 (tp47) (by omega) (by omega) (q38_l) (hh) (hq7) (by
                rw [← hs9, maS_st (i := i) (by omega), q38_s]
                dsimp only
                rw [if_neg (fun h => h.1 n_48), if_neg (by omega), if_neg (by omega)])
          · have c_48 : ¬ ((nI (mkN f n E (by2 f p))) = 0) := of_decide_eq_false c_48
            have n_48 : ¬ (mkN f n E (by2 f p) = 0) := fun h9 => c_48 ((eq_nI (p := mkN f n E (by2 f p)) (n := 0) (Nat.lt_trans (le_mk _ _ _ _) (by decide)) (by decide)).mpr h9)
            refine ps_st (S' := (52, [(4, .int (nI (mkN f n E (by2 f p)))), (0, .ref ac), (1, .ref a), (2, .int (nI p)), (3, .int (nI i))], [.ref ac], M24)) rfl rfl rfl ?_
            refine ps_st (S' := (54, [(4, .int (nI (mkN f n E (by2 f p)))), (0, .ref ac), (1, .ref a), (2, .int (nI p)), (3, .int (nI i))], [.int (nI (mkN f n E (by2 f p))), .ref ac], M24)) rfl rfl rfl ?_
            refine ps_st (S' := (55, [(4, .int (nI (mkN f n E (by2 f p)))), (0, .ref ac), (1, .ref a), (2, .int (nI p)), (3, .int (nI i))], [.int (nI p), .int (nI (mkN f n E (by2 f p))), .ref ac], M24)) rfl rfl rfl ?_
            refine ps_st (S' := (57, [(4, .int (nI (mkN f n E (by2 f p)))), (0, .ref ac), (1, .ref a), (2, .int (nI p)), (3, .int (nI i))], [.int 6, .int (nI p), .int (nI (mkN f n E (by2 f p))), .ref ac], M24)) rfl rfl rfl ?_
            refine ps_st (S' := (58, [(4, .int (nI (mkN f n E (by2 f p)))), (0, .ref ac), (1, .ref a), (2, .int (nI p)), (3, .int (nI i))], [.int ((nI p) + 6), .int (nI (mkN f n E (by2 f p))), .ref ac], M24)) rfl rfl rfl ?_
            rw [nI_add1 (p := p) (k := 6) (x := 6) rfl (by omega)]
            show pl _ _ _ (_, [(4, .int (nI (mkN f n E (by2 f p)))), (0, .ref ac), (1, .ref a), (2, .int (nI p)), (3, .int (nI i))], [.int (nI (p + 6)), .int (nI (mkN f n E (by2 f p))), .ref ac], M24) _
            refine ps_st (S' := (59, [(4, .int (nI (mkN f n E (by2 f p)))), (0, .ref ac), (1, .ref a), (2, .int (nI p)), (3, .int (nI i))], [.ref ac, .int (nI (p + 6)), .int (nI (mkN f n E (by2 f p))), .ref ac], M24)) rfl rfl rfl ?_
            refine ps_st (S' := (60, [(4, .int (nI (mkN f n E (by2 f p)))), (0, .ref ac), (1, .ref a), (2, .int (nI p)), (3, .int (nI i))], [.int (nI p), .ref ac, .int (nI (p + 6)), .int (nI (mkN f n E (by2 f p))), .ref ac], M24)) rfl rfl rfl ?_
            refine pl_call (a := [.ref ac, .int (nI p)]) (rest := [.int (nI (p + 6)), .int (nI (mkN f n E (by2 f p))), .ref ac]) rfl rfl rfl (dk_behind (f := f) (n := n) (q := q) (ac := ac) (c := c) (b := b) (da := da) (vd := vd) (s1 := (nI s'37)) (p := p) h38 h42 h43 (hn) (by omega)) (fun v52 M53 q54 => ?_)
            obtain ⟨rfl, rfl⟩ := q54
            show pl _ _ _ (63, [(4, .int (nI (mkN f n E (by2 f p)))), (0, .ref ac), (1, .ref a), (2, .int (nI p)), (3, .int (nI i))], [.int (nI (p + 6 + by4 f (p + 2))), .int (nI (p + 6)), .int (nI (mkN f n E (by2 f p))), .ref ac], M24) _
            refine pl_call (a := [.ref ac, .int (nI (mkN f n E (by2 f p))), .int (nI (p + 6)), .int (nI (p + 6 + by4 f (p + 2)))]) (rest := []) rfl rfl rfl (dk_formEnd (f := f) (n := n) (q := q) (ac := ac) (c := c) (b := b) (da := da) (vd := vd) (s1 := (nI s'37)) (k := (mkN f n E (by2 f p))) (p0 := (p + 6)) (e := (p + 6 + by4 f (p + 2))) h38 h42 h43 (hn) (by omega) (by omega)) (fun v55 M56 q57 => ?_)
            rcases q57 with q57 | q57
            · skip
              obtain ⟨q63_s, rfl, rfl⟩ := q57
              show pl _ _ _ (66, [(4, .int (nI (mkN f n E (by2 f p)))), (0, .ref ac), (1, .ref a), (2, .int (nI p)), (3, .int (nI i))], [.int (-1)], M24) _
              refine ps_st (S' := (67, [(4, .int (nI (mkN f n E (by2 f p)))), (0, .ref ac), (1, .ref a), (2, .int (nI p)), (3, .int (nI i))], [.ref ac, .int (-1)], M24)) rfl rfl rfl ?_
              refine ps_st (S' := (68, [(4, .int (nI (mkN f n E (by2 f p)))), (0, .ref ac), (1, .ref a), (2, .int (nI p)), (3, .int (nI i))], [.int (nI p), .ref ac, .int (-1)], M24)) rfl rfl rfl ?_
              refine pl_call (a := [.ref ac, .int (nI p)]) (rest := [.int (-1)]) rfl rfl rfl (dk_behind (f := f) (n := n) (q := q) (ac := ac) (c := c) (b := b) (da := da) (vd := vd) (s1 := (nI s'37)) (p := p) h38 h42 h43 (hn) (by omega)) (fun v58 M59 q60 => ?_)
              obtain ⟨rfl, rfl⟩ := q60
              show pl _ _ _ (71, [(4, .int (nI (mkN f n E (by2 f p)))), (0, .ref ac), (1, .ref a), (2, .int (nI p)), (3, .int (nI i))], [.int (nI (p + 6 + by4 f (p + 2))), .int (-1)], M24) _
              refine ps_if2 (S1 := (85, [(0, .ref ac), (1, .ref a), (2, .int (nI p)), (3, .int (nI i)), (4, .int (nI (mkN f n E (by2 f p))))], [], M24)) (S2 := (74, [(4, .int (nI (mkN f n E (by2 f p)))), (0, .ref ac), (1, .ref a), (2, .int (nI p)), (3, .int (nI i))], [], M24)) rfl rfl rfl (fun c_71 => ?_) (fun c_71 => ?_)
              · exact absurd (of_decide_eq_true c_71) (m1_ne (by omega))
              have hfe : ¬ s_fe f (mkN f n E (by2 f p)) (p + 6) (p + 6 + by4 f (p + 2)) = some (p + 6 + by4 f (p + 2)) := by rw [q63_s]; exact fun h => by cases h
              refine ps_st (S' := (75, [(4, .int (nI (mkN f n E (by2 f p)))), (0, .ref ac), (1, .ref a), (2, .int (nI p)), (3, .int (nI i))], [.ref ac], M24)) rfl rfl rfl ?_
              refine ps_get (S' := (78, [(4, .int (nI (mkN f n E (by2 f p)))), (0, .ref ac), (1, .ref a), (2, .int (nI p)), (3, .int (nI i))], [.ref vd], M24)) rfl h38 rfl rfl ?_
              refine ps_st (S' := (80, [(4, .int (nI (mkN f n E (by2 f p)))), (0, .ref ac), (1, .ref a), (2, .int (nI p)), (3, .int (nI i))], [.int 30, .ref vd], M24)) rfl rfl rfl ?_
              refine ps_st (S' := (81, [(4, .int (nI (mkN f n E (by2 f p)))), (0, .ref ac), (1, .ref a), (2, .int (nI p)), (3, .int (nI i))], [.int (nI p), .int 30, .ref vd], M24)) rfl rfl rfl ?_
              refine pl_call (a := [.ref vd, .int 30, .int (nI p)]) (rest := []) rfl rfl rfl (dk_wrong (vd := vd) (ru := ru) (wa := wa) (x1 := 30) (x2 := (nI p)) h39) (fun v61 M62 q63 => ?_)
              obtain ⟨rfl, h64, f65⟩ := q63
              have h67 := (f65.1 ac (nin1 (ob_ne h38 h39 (by decide)))).trans h38
              have h68 := (f65.1 b (nin1 (ob_ne h42 h39 (by decide)))).trans h42
              have h69 := (f65.1 da (nin1 (Ne.symm (ob_ar h39 h43)))).trans h43
              have h70 := (f65.1 c (nin1 (ob_ne h44 h39 (by decide)))).trans h44
              have h71 := (f65.1 a (nin1 (ob_ne h45 h39 (by decide)))).trans h45
              have hF72 := hF46.trf f65 (by intro z hz; simp only [List.mem_cons, List.not_mem_nil, or_false] at hz ⊢; try omega)
              have tp73 : M62.2.1 = t1 := by rw [f65.2]; exact tp47
              have hV74 := hV48.keep f65.gm (n7c h39 (by decide) (n7nil))
              show pl _ _ _ (84, [(4, .int (nI (mkN f n E (by2 f p)))), (0, .ref ac), (1, .ref a), (2, .int (nI p)), (3, .int (nI i))], [.int 0], M62) _
              exact ps_ret rfl rfl (Or.inr ⟨(30, p), by
                  rw [← hs9, maS_st (i := i) (by omega), q38_s]
                  dsimp only
                  rw [if_pos ⟨n_48, hfe⟩], rfl, h64, hF72, hF72.2⟩)
            · skip
              obtain ⟨x75, q63_s, q63_l, rfl, rfl⟩ := q57
              show pl _ _ _ (66, [(4, .int (nI (mkN f n E (by2 f p)))), (0, .ref ac), (1, .ref a), (2, .int (nI p)), (3, .int (nI i))], [.int (nI x75)], M24) _
              refine ps_st (S' := (67, [(4, .int (nI (mkN f n E (by2 f p)))), (0, .ref ac), (1, .ref a), (2, .int (nI p)), (3, .int (nI i))], [.ref ac, .int (nI x75)], M24)) rfl rfl rfl ?_
              refine ps_st (S' := (68, [(4, .int (nI (mkN f n E (by2 f p)))), (0, .ref ac), (1, .ref a), (2, .int (nI p)), (3, .int (nI i))], [.int (nI p), .ref ac, .int (nI x75)], M24)) rfl rfl rfl ?_
              refine pl_call (a := [.ref ac, .int (nI p)]) (rest := [.int (nI x75)]) rfl rfl rfl (dk_behind (f := f) (n := n) (q := q) (ac := ac) (c := c) (b := b) (da := da) (vd := vd) (s1 := (nI s'37)) (p := p) h38 h42 h43 (hn) (by omega)) (fun v76 M77 q78 => ?_)
              obtain ⟨rfl, rfl⟩ := q78
              show pl _ _ _ (71, [(4, .int (nI (mkN f n E (by2 f p)))), (0, .ref ac), (1, .ref a), (2, .int (nI p)), (3, .int (nI i))], [.int (nI (p + 6 + by4 f (p + 2))), .int (nI x75)], M24) _
              refine ps_if2 (S1 := (85, [(0, .ref ac), (1, .ref a), (2, .int (nI p)), (3, .int (nI i)), (4, .int (nI (mkN f n E (by2 f p))))], [], M24)) (S2 := (74, [(4, .int (nI (mkN f n E (by2 f p)))), (0, .ref ac), (1, .ref a), (2, .int (nI p)), (3, .int (nI i))], [], M24)) rfl rfl rfl (fun c_71 => ?_) (fun c_71 => ?_)
              · have c_71 : (nI x75) = (nI (p + 6 + by4 f (p + 2))) := of_decide_eq_true c_71
                have n_71 : x75 = p + 6 + by4 f (p + 2) := (eq_nI (p := x75) (n := p + 6 + by4 f (p + 2)) (by omega) (by omega)).mp c_71
                have hfe : s_fe f (mkN f n E (by2 f p)) (p + 6) (p + 6 + by4 f (p + 2)) = some (p + 6 + by4 f (p + 2)) := by rw [q63_s, n_71]
                have hb8 := (s_fe_in hfe).1
                refine ps_st (S' := (87, [(0, .ref ac), (1, .ref a), (2, .int (nI p)), (3, .int (nI i)), (4, .int (nI (mkN f n E (by2 f p))))], [.int (nI (mkN f n E (by2 f p)))], M24)) rfl rfl rfl ?_
                refine ps_st (S' := (88, [(0, .ref ac), (1, .ref a), (2, .int (nI p)), (3, .int (nI i)), (4, .int (nI (mkN f n E (by2 f p))))], [.int 2, .int (nI (mkN f n E (by2 f p)))], M24)) rfl rfl rfl ?_
                refine ps_if2 (S1 := (102, [(0, .ref ac), (1, .ref a), (2, .int (nI p)), (3, .int (nI i)), (4, .int (nI (mkN f n E (by2 f p))))], [], M24)) (S2 := (91, [(0, .ref ac), (1, .ref a), (2, .int (nI p)), (3, .int (nI i)), (4, .int (nI (mkN f n E (by2 f p))))], [], M24)) rfl rfl rfl (fun c_88 => ?_) (fun c_88 => ?_)
                · have c_88 : ¬ (nI (mkN f n E (by2 f p))) = 2 := of_decide_eq_true c_88
                  have n_88 : ¬ (mkN f n E (by2 f p) = 2) := fun h9 => c_88 ((eq_nI (p := mkN f n E (by2 f p)) (n := 2) (Nat.lt_trans (le_mk _ _ _ _) (by decide)) (by decide)).mpr h9)
                  refine ps_st (S' := (104, [(0, .ref ac), (1, .ref a), (2, .int (nI p)), (3, .int (nI i)), (4, .int (nI (mkN f n E (by2 f p))))], [.int (nI (mkN f n E (by2 f p)))], M24)) rfl rfl rfl ?_
                  refine ps_st (S' := (105, [(0, .ref ac), (1, .ref a), (2, .int (nI p)), (3, .int (nI i)), (4, .int (nI (mkN f n E (by2 f p))))], [.int 3, .int (nI (mkN f n E (by2 f p)))], M24)) rfl rfl rfl ?_
                  refine ps_if2 (S1 := (142, [(0, .ref ac), (1, .ref a), (2, .int (nI p)), (3, .int (nI i))], [], M24)) (S2 := (108, [(0, .ref ac), (1, .ref a), (2, .int (nI p)), (3, .int (nI i)), (4, .int (nI (mkN f n E (by2 f p))))], [], M24)) rfl rfl rfl (fun c_105 => ?_) (fun c_105 => ?_)
                  · have c_105 : ¬ (nI (mkN f n E (by2 f p))) = 3 := of_decide_eq_true c_105
                    have n_105 : ¬ (mkN f n E (by2 f p) = 3) := fun h9 => c_105 ((eq_nI (p := mkN f n E (by2 f p)) (n := 3) (Nat.lt_trans (le_mk _ _ _ _) (by decide)) (by decide)).mpr h9)
                    refine ps_st (S' := (143, [(0, .ref ac), (1, .ref a), (2, .int (nI p)), (3, .int (nI i))], [.ref ac], M24)) rfl rfl rfl ?_
                    refine ps_st (S' := (144, [(0, .ref ac), (1, .ref a), (2, .int (nI p)), (3, .int (nI i))], [.int (nI p), .ref ac], M24)) rfl rfl rfl ?_
                    refine pl_call (a := [.ref ac, .int (nI p)]) (rest := []) rfl rfl rfl (dk_behind (f := f) (n := n) (q := q) (ac := ac) (c := c) (b := b) (da := da) (vd := vd) (s1 := (nI s'37)) (p := p) h38 h42 h43 (hn) (by omega)) (fun v79 M80 q81 => ?_)
                    obtain ⟨rfl, rfl⟩ := q81
                    show pl _ _ _ (147, [(0, .ref ac), (1, .ref a), (2, .int (nI p)), (3, .int (nI i))], [.int (nI (p + 6 + by4 f (p + 2)))], M24) _
                    refine ps_st (S' := (148, [(2, .int (nI (p + 6 + by4 f (p + 2)))), (0, .ref ac), (1, .ref a), (3, .int (nI i))], [], M24)) rfl rfl rfl ?_
                    refine ps_st (S' := (151, [(3, .int ((nI i) + 1)), (2, .int (nI (p + 6 + by4 f (p + 2)))), (0, .ref ac), (1, .ref a)], [], M24)) rfl rfl rfl ?_
                    rw [nI_add1 (p := i) (k := 1) (x := 1) rfl (by omega)]
                    show pl _ _ _ (_, [(3, .int (nI (i + 1))), (2, .int (nI (p + 6 + by4 f (p + 2)))), (0, .ref ac), (1, .ref a)], [], M24) _
                    refine ps_st (S' := (12, [(0, .ref ac), (1, .ref a), (2, .int (nI (p + 6 + by4 f (p + 2)))), (3, .int (nI (i + 1)))], [], M24)) rfl rfl rfl ?_
                    exact ih (i + 1) (p + 6 + by4 f (p + 2)) ((s'37)) (h) (t1) (kn2) (ex2) (cd2) M24 h38 h42 h43 h44 h39 h45 hV48 hF46 (tp47) (by omega) (by omega) (q38_l) (hh) (hq7) (by
                        rw [← hs9, maS_st (i := i) (by omega), q38_s]
                        dsimp only
                        rw [if_neg (fun h => h.2 hfe)]
                        rw [if_neg (by omega)]
                        rw [if_neg (by omega)])
                  · have c_105 : ¬ (¬ (nI (mkN f n E (by2 f p))) = 3) := of_decide_eq_false c_105
                    have n_105 : mkN f n E (by2 f p) = 3 := (eq_nI (p := mkN f n E (by2 f p)) (n := 3) (Nat.lt_trans (le_mk _ _ _ _) (by decide)) (by decide)).mp (Decidable.not_not.mp c_105)
                    refine ps_st (S' := (109, [(0, .ref ac), (1, .ref a), (2, .int (nI p)), (3, .int (nI i)), (4, .int (nI (mkN f n E (by2 f p))))], [.ref a], M24)) rfl rfl rfl ?_
                    refine ps_st (S' := (110, [(0, .ref ac), (1, .ref a), (2, .int (nI p)), (3, .int (nI i)), (4, .int (nI (mkN f n E (by2 f p))))], [.ref ac, .ref a], M24)) rfl rfl rfl ?_
                    refine ps_get (S' := (113, [(0, .ref ac), (1, .ref a), (2, .int (nI p)), (3, .int (nI i)), (4, .int (nI (mkN f n E (by2 f p))))], [.ref b, .ref a], M24)) rfl h38 rfl rfl ?_
                    refine ps_st (S' := (114, [(0, .ref ac), (1, .ref a), (2, .int (nI p)), (3, .int (nI i)), (4, .int (nI (mkN f n E (by2 f p))))], [.int (nI p), .ref b, .ref a], M24)) rfl rfl rfl ?_
                    refine ps_st (S' := (116, [(0, .ref ac), (1, .ref a), (2, .int (nI p)), (3, .int (nI i)), (4, .int (nI (mkN f n E (by2 f p))))], [.int 6, .int (nI p), .ref b, .ref a], M24)) rfl rfl rfl ?_
                    refine ps_st (S' := (117, [(0, .ref ac), (1, .ref a), (2, .int (nI p)), (3, .int (nI i)), (4, .int (nI (mkN f n E (by2 f p))))], [.int ((nI p) + 6), .ref b, .ref a], M24)) rfl rfl rfl ?_
                    rw [nI_add1 (p := p) (k := 6) (x := 6) rfl (by omega)]
                    show pl _ _ _ (_, [(0, .ref ac), (1, .ref a), (2, .int (nI p)), (3, .int (nI i)), (4, .int (nI (mkN f n E (by2 f p))))], [.int (nI (p + 6)), .ref b, .ref a], M24) _
                    refine pl_call (a := [.ref b, .int (nI (p + 6))]) (rest := [.ref a]) rfl rfl rfl (dk_u2 (f := f) (n := n) (b := b) (da := da) (p := (p + 6)) h42 h43 (hn) (by omega)) (fun v82 M83 q84 => ?_)
                    obtain ⟨rfl, rfl⟩ := q84
                    show pl _ _ _ (120, [(0, .ref ac), (1, .ref a), (2, .int (nI p)), (3, .int (nI i)), (4, .int (nI (mkN f n E (by2 f p))))], [.int (nI (by2 f (p + 6))), .ref a], M24) _
                    have hu_117 := by2_lt f (p + 6)
                    refine ps_put (l' := [.int (nI b0), .int (nI (by2 f b0)), .int (nI (by2 f (b0 + 2))), .int (nI (by2 f (b0 + 4))), .int (nI (by2 f (b0 + 6))), .int (nI (b0 + 8)), .int kn2, .int co, .int (nI w), .int (nI (by2 f (p + 6))), cd2]) rfl h45 rfl rfl (fun M85 h86 f87 z88 => ?_)
                    have h89 := (f87 ac (ob_ne h38 h45 (by decide))).trans h38
                    have h90 := (f87 b (ob_ne h42 h45 (by decide))).trans h42
                    have h91 := (f87 da (Ne.symm (ob_ar h45 h43))).trans h43
                    have h92 := (f87 c (ob_ne h44 h45 (by decide))).trans h44
                    have h93 := (f87 vd (ob_ne h39 h45 (by decide))).trans h39
                    have hV94 := hV48.put h45 (by decide) f87 z88
                    have hF95 := hF46.up (Or.inl (by simp)) f87 (by rw [z88]; exact Nat.le_refl _)
                    have tp96 : M85.2.1 = t1 := by rw [z88]; exact tp47
                    show pl _ _ _ (123, [(0, .ref ac), (1, .ref a), (2, .int (nI p)), (3, .int (nI i)), (4, .int (nI (mkN f n E (by2 f p))))], [], M85) _
                    have hb9 := (s_fe_in hfe).2.2.1 (by omega)
                    refine ps_st (S' := (124, [(0, .ref ac), (1, .ref a), (2, .int (nI p)), (3, .int (nI i)), (4, .int (nI (mkN f n E (by2 f p))))], [.ref ac], M85)) rfl rfl rfl ?_
                    refine ps_st (S' := (125, [(0, .ref ac), (1, .ref a), (2, .int (nI p)), (3, .int (nI i)), (4, .int (nI (mkN f n E (by2 f p))))], [.int (nI p), .ref ac], M85)) rfl rfl rfl ?_
                    refine pl_call (a := [.ref ac, .int (nI p)]) (rest := []) rfl rfl rfl (dk_areClasses (f := f) (n := n) (N := N) (q := q) (E := E) (ac := ac) (c := c) (b := b) (da := da) (vd := vd) (fr := fr) (mr := mr) (fa := fa) (ic := ic) (mj := mj) (na := na) (pa := pa) (mi := mi) (ru := ru) (wa := wa) (s1 := (nI s'37)) (k1 := k1) (k2 := k2) (k3 := k3) (k4 := k4) (k5 := k5) (k6 := k6) (k7 := k7) (p := p) h89 h90 h91 (hn) (by omega) (hV94)) (fun v97 M98 q99 => ?_)
                    obtain ⟨rfl, rfl⟩ := q99
                    show pl _ _ _ (128, [(0, .ref ac), (1, .ref a), (2, .int (nI p)), (3, .int (nI i)), (4, .int (nI (mkN f n E (by2 f p))))], [.int (nI (clA f E (p + 8) (by2 f (p + 6)) 0))], M85) _
                    refine ps_if (S1 := (142, [(0, .ref ac), (1, .ref a), (2, .int (nI p)), (3, .int (nI i))], [], M85)) (S2 := (131, [(0, .ref ac), (1, .ref a), (2, .int (nI p)), (3, .int (nI i)), (4, .int (nI (mkN f n E (by2 f p))))], [], M85)) rfl rfl rfl (fun c_128 => ?_) (fun c_128 => ?_)
                    · have c_128 : ¬ (nI (clA f E (p + 8) (by2 f (p + 6)) 0)) = 0 := of_decide_eq_true c_128
                      have n_128 : ¬ (clA f E (p + 8) (by2 f (p + 6)) 0 = 0) := fun h9 => c_128 ((eq_nI (p := clA f E (p + 8) (by2 f (p + 6)) 0) (n := 0) (Nat.lt_trans (le1_cl _ _ _ _ _) (by decide)) (by decide)).mpr h9)
                      refine ps_st (S' := (143, [(0, .ref ac), (1, .ref a), (2, .int (nI p)), (3, .int (nI i))], [.ref ac], M85)) rfl rfl rfl ?_
                      refine ps_st (S' := (144, [(0, .ref ac), (1, .ref a), (2, .int (nI p)), (3, .int (nI i))], [.int (nI p), .ref ac], M85)) rfl rfl rfl ?_
                      refine pl_call (a := [.ref ac, .int (nI p)]) (rest := []) rfl rfl rfl (dk_behind (f := f) (n := n) (q := q) (ac := ac) (c := c) (b := b) (da := da) (vd := vd) (s1 := (nI s'37)) (p := p) h89 h90 h91 (hn) (by omega)) (fun v100 M101 q102 => ?_)
                      obtain ⟨rfl, rfl⟩ := q102
                      show pl _ _ _ (147, [(0, .ref ac), (1, .ref a), (2, .int (nI p)), (3, .int (nI i))], [.int (nI (p + 6 + by4 f (p + 2)))], M85) _
                      refine ps_st (S' := (148, [(2, .int (nI (p + 6 + by4 f (p + 2)))), (0, .ref ac), (1, .ref a), (3, .int (nI i))], [], M85)) rfl rfl rfl ?_
                      refine ps_st (S' := (151, [(3, .int ((nI i) + 1)), (2, .int (nI (p + 6 + by4 f (p + 2)))), (0, .ref ac), (1, .ref a)], [], M85)) rfl rfl rfl ?_
                      rw [nI_add1 (p := i) (k := 1) (x := 1) rfl (by omega)]
                      show pl _ _ _ (_, [(3, .int (nI (i + 1))), (2, .int (nI (p + 6 + by4 f (p + 2)))), (0, .ref ac), (1, .ref a)], [], M85) _
                      refine ps_st (S' := (12, [(0, .ref ac), (1, .ref a), (2, .int (nI (p + 6 + by4 f (p + 2)))), (3, .int (nI (i + 1)))], [], M85)) rfl rfl rfl ?_
                      exact ih (i + 1) (p + 6 + by4 f (p + 2)) ((s'37)) (h) (t1) (kn2) ((nI (by2 f (p + 6)))) (cd2) M85 h89 h90 h91 h92 h93 h86 hV94 hF95 (tp96) (by omega) (by omega) (q38_l) (hh) (hq7) (by
                          rw [← hs9, maS_st (i := i) (by omega), q38_s]
                          dsimp only
                          rw [if_neg (fun h => h.2 hfe)]
                          rw [if_neg (by omega)]
                          rw [if_neg (by omega)])
                    · have c_128 : ¬ (¬ (nI (clA f E (p + 8) (by2 f (p + 6)) 0)) = 0) := of_decide_eq_false c_128
                      have n_128 : clA f E (p + 8) (by2 f (p + 6)) 0 = 0 := (eq_nI (p := clA f E (p + 8) (by2 f (p + 6)) 0) (n := 0) (Nat.lt_trans (le1_cl _ _ _ _ _) (by decide)) (by decide)).mp (Decidable.not_not.mp c_128)
                      refine ps_st (S' := (132, [(0, .ref ac), (1, .ref a), (2, .int (nI p)), (3, .int (nI i)), (4, .int (nI (mkN f n E (by2 f p))))], [.ref ac], M85)) rfl rfl rfl ?_
                      refine ps_get (S' := (135, [(0, .ref ac), (1, .ref a), (2, .int (nI p)), (3, .int (nI i)), (4, .int (nI (mkN f n E (by2 f p))))], [.ref vd], M85)) rfl h89 rfl rfl ?_
                      refine ps_st (S' := (137, [(0, .ref ac), (1, .ref a), (2, .int (nI p)), (3, .int (nI i)), (4, .int (nI (mkN f n E (by2 f p))))], [.int 32, .ref vd], M85)) rfl rfl rfl ?_
                      refine ps_st (S' := (138, [(0, .ref ac), (1, .ref a), (2, .int (nI p)), (3, .int (nI i)), (4, .int (nI (mkN f n E (by2 f p))))], [.int (nI p), .int 32, .ref vd], M85)) rfl rfl rfl ?_
                      refine pl_call (a := [.ref vd, .int 32, .int (nI p)]) (rest := []) rfl rfl rfl (dk_wrong (vd := vd) (ru := ru) (wa := wa) (x1 := 32) (x2 := (nI p)) h93) (fun v103 M104 q105 => ?_)
                      obtain ⟨rfl, h106, f107⟩ := q105
                      have h109 := (f107.1 ac (nin1 (ob_ne h89 h93 (by decide)))).trans h89
                      have h110 := (f107.1 b (nin1 (ob_ne h90 h93 (by decide)))).trans h90
                      have h111 := (f107.1 da (nin1 (Ne.symm (ob_ar h93 h91)))).trans h91
                      have h112 := (f107.1 c (nin1 (ob_ne h92 h93 (by decide)))).trans h92
                      have h113 := (f107.1 a (nin1 (ob_ne h86 h93 (by decide)))).trans h86
                      have hF114 := hF95.trf f107 (by intro z hz; simp only [List.mem_cons, List.not_mem_nil, or_false] at hz ⊢; try omega)
                      have tp115 : M104.2.1 = t1 := by rw [f107.2]; exact tp96
                      have hV116 := hV94.keep f107.gm (n7c h93 (by decide) (n7nil))
                      show pl _ _ _ (141, [(0, .ref ac), (1, .ref a), (2, .int (nI p)), (3, .int (nI i)), (4, .int (nI (mkN f n E (by2 f p))))], [.int 0], M104) _
                      exact ps_ret rfl rfl (Or.inr ⟨(32, p), by
                          rw [← hs9, maS_st (i := i) (by omega), q38_s]
                          dsimp only
                          rw [if_neg (fun h => h.2 hfe)]
                          rw [if_neg (by omega)]
                          rw [if_pos (by omega)], rfl, h106, hF114, hF114.2⟩)
                · have c_88 : ¬ (¬ (nI (mkN f n E (by2 f p))) = 2) := of_decide_eq_false c_88
                  have n_88 : mkN f n E (by2 f p) = 2 := (eq_nI (p := mkN f n E (by2 f p)) (n := 2) (Nat.lt_trans (le_mk _ _ _ _) (by decide)) (by decide)).mp (Decidable.not_not.mp c_88)
                  refine ps_st (S' := (92, [(0, .ref ac), (1, .ref a), (2, .int (nI p)), (3, .int (nI i)), (4, .int (nI (mkN f n E (by2 f p))))], [.ref ac], M24)) rfl rfl rfl ?_
                  refine ps_st (S' := (93, [(0, .ref ac), (1, .ref a), (2, .int (nI p)), (3, .int (nI i)), (4, .int (nI (mkN f n E (by2 f p))))], [.ref a, .ref ac], M24)) rfl rfl rfl ?_
                  refine ps_st (S' := (94, [(0, .ref ac), (1, .ref a), (2, .int (nI p)), (3, .int (nI i)), (4, .int (nI (mkN f n E (by2 f p))))], [.int (nI p), .ref a, .ref ac], M24)) rfl rfl rfl ?_
                  refine pl_call (a := [.ref ac, .ref a, .int (nI p)]) (rest := []) rfl rfl rfl (dk_codeHolds (f := f) (n := n) (N := N) (q := q) (E := E) (ac := ac) (c := c) (b := b) (da := da) (vd := vd) (fr := fr) (mr := mr) (fa := fa) (ic := ic) (mj := mj) (na := na) (pa := pa) (mi := mi) (ru := ru) (wa := wa) (k1 := k1) (k2 := k2) (k3 := k3) (k4 := k4) (k5 := k5) (k6 := k6) (k7 := k7) (a := a) (b0 := b0) (s := (s'37)) (w := w) (p := p) (e := (p + 6 + by4 f (p + 2))) (kn := kn2) (co := co) (ex := ex2) (cd := cd2) h38 h42 h43 h44 h39 h45 (hn) (hmj) (by omega) (hw) (by omega) ((s_fe_in hfe).2.2.2.2.2.2 n_88) (hV48) (by omega) (by omega) (by omega) (by omega) (by omega) (by omega) (by omega)) (fun v117 M118 q119 => ?_)
                  rcases q119 with q119 | q119
                  · skip
                    obtain ⟨e9120, q94_s, rfl, h121, f122, tp123⟩ := q119
                    rw [tp47] at tp123
                    have h124 := (f122.1 b (by omega) (nin3 (ob_ne h42 h38 (by decide)) (ob_ne h42 h39 (by decide)) (ob_ne h42 h45 (by decide)))).trans h42
                    have h125 := (f122.1 da (by omega) (nin3 (Ne.symm (ob_ar h38 h43)) (Ne.symm (ob_ar h39 h43)) (Ne.symm (ob_ar h45 h43)))).trans h43
                    have h126 := (f122.1 c (by omega) (nin3 (ob_ne h44 h38 (by decide)) (ob_ne h44 h39 (by decide)) (ob_ne h44 h45 (by decide)))).trans h44
                    have hF127 := hF46.tr f122 (by intro z hz; simp only [List.mem_cons, List.not_mem_nil, or_false] at hz ⊢; try omega)
                    have hV128 := hV48.keep f122 (n7c h38 (by decide) (n7c h39 (by decide) (n7c h45 (by decide) (n7nil))))
                    show pl _ _ _ (97, [(0, .ref ac), (1, .ref a), (2, .int (nI p)), (3, .int (nI i)), (4, .int (nI (mkN f n E (by2 f p))))], [.int 0], M118) _
                    refine ps_if (S1 := (102, [(0, .ref ac), (1, .ref a), (2, .int (nI p)), (3, .int (nI i)), (4, .int (nI (mkN f n E (by2 f p))))], [], M118)) (S2 := (100, [(0, .ref ac), (1, .ref a), (2, .int (nI p)), (3, .int (nI i)), (4, .int (nI (mkN f n E (by2 f p))))], [], M118)) rfl rfl rfl (fun c_97 => ?_) (fun c_97 => ?_)
                    · exact absurd (of_decide_eq_true c_97) (by decide)
                    refine ps_st (S' := (101, [(0, .ref ac), (1, .ref a), (2, .int (nI p)), (3, .int (nI i)), (4, .int (nI (mkN f n E (by2 f p))))], [.int 0], M118)) rfl rfl rfl ?_
                    exact ps_ret rfl rfl (Or.inr ⟨e9120, by
                        rw [← hs9, maS_st (i := i) (by omega), q38_s]
                        dsimp only
                        rw [if_neg (fun h => h.2 hfe)]
                        rw [if_pos (by omega), q94_s], rfl, h121, hF127, hF127.2⟩)
                  · skip
                    obtain ⟨s'129, q94_s, q94_l, rfl, h130, h131, h132, f133, tp134⟩ := q119
                    rw [tp47] at h132 tp134
                    have h135 := (f133.1 b (by omega) (nin3 (ob_ne h42 h38 (by decide)) (ob_ne h42 h39 (by decide)) (ob_ne h42 h45 (by decide)))).trans h42
                    have h136 := (f133.1 da (by omega) (nin3 (Ne.symm (ob_ar h38 h43)) (Ne.symm (ob_ar h39 h43)) (Ne.symm (ob_ar h45 h43)))).trans h43
                    have h137 := (f133.1 c (by omega) (nin3 (ob_ne h44 h38 (by decide)) (ob_ne h44 h39 (by decide)) (ob_ne h44 h45 (by decide)))).trans h44
                    have hF138 := hF46.tr f133 (by intro z hz; simp only [List.mem_cons, List.not_mem_nil, or_false] at hz ⊢; try omega)
                    have hV139 := hV48.keep f133 (n7c h38 (by decide) (n7c h39 (by decide) (n7c h45 (by decide) (n7nil))))
                    show pl _ _ _ (97, [(0, .ref ac), (1, .ref a), (2, .int (nI p)), (3, .int (nI i)), (4, .int (nI (mkN f n E (by2 f p))))], [.int 1], M118) _
                    refine ps_if (S1 := (102, [(0, .ref ac), (1, .ref a), (2, .int (nI p)), (3, .int (nI i)), (4, .int (nI (mkN f n E (by2 f p))))], [], M118)) (S2 := (100, [(0, .ref ac), (1, .ref a), (2, .int (nI p)), (3, .int (nI i)), (4, .int (nI (mkN f n E (by2 f p))))], [], M118)) rfl rfl rfl (fun c_97 => ?_) (fun c_97 => ?_)
                    rotate_left
                    · exact absurd (by decide) (of_decide_eq_false c_97)
                    refine ps_st (S' := (104, [(0, .ref ac), (1, .ref a), (2, .int (nI p)), (3, .int (nI i)), (4, .int (nI (mkN f n E (by2 f p))))], [.int (nI (mkN f n E (by2 f p)))], M118)) rfl rfl rfl ?_
                    refine ps_st (S' := (105, [(0, .ref ac), (1, .ref a), (2, .int (nI p)), (3, .int (nI i)), (4, .int (nI (mkN f n E (by2 f p))))], [.int 3, .int (nI (mkN f n E (by2 f p)))], M118)) rfl rfl rfl ?_
                    refine ps_if2 (S1 := (142, [(0, .ref ac), (1, .ref a), (2, .int (nI p)), (3, .int (nI i))], [], M118)) (S2 := (108, [(0, .ref ac), (1, .ref a), (2, .int (nI p)), (3, .int (nI i)), (4, .int (nI (mkN f n E (by2 f p))))], [], M118)) rfl rfl rfl (fun c_105 => ?_) (fun c_105 => ?_)
                    rotate_left
                    · exact absurd (show ¬ ((nI (mkN f n E (by2 f p))) = 3) from fun h9 => absurd ((eq_nI (p := mkN f n E (by2 f p)) (n := 3) (Nat.lt_trans (le_mk _ _ _ _) (by decide)) (by decide)).mp h9) (by omega)) (of_decide_eq_false c_105)
                    refine ps_st (S' := (143, [(0, .ref ac), (1, .ref a), (2, .int (nI p)), (3, .int (nI i))], [.ref ac], M118)) rfl rfl rfl ?_
                    refine ps_st (S' := (144, [(0, .ref ac), (1, .ref a), (2, .int (nI p)), (3, .int (nI i))], [.int (nI p), .ref ac], M118)) rfl rfl rfl ?_
                    refine pl_call (a := [.ref ac, .int (nI p)]) (rest := []) rfl rfl rfl (dk_behind (f := f) (n := n) (q := q) (ac := ac) (c := c) (b := b) (da := da) (vd := vd) (s1 := (nI s'129)) (p := p) h130 h135 h136 (hn) (by omega)) (fun v140 M141 q142 => ?_)
                    obtain ⟨rfl, rfl⟩ := q142
                    show pl _ _ _ (147, [(0, .ref ac), (1, .ref a), (2, .int (nI p)), (3, .int (nI i))], [.int (nI (p + 6 + by4 f (p + 2)))], M118) _
                    refine ps_st (S' := (148, [(2, .int (nI (p + 6 + by4 f (p + 2)))), (0, .ref ac), (1, .ref a), (3, .int (nI i))], [], M118)) rfl rfl rfl ?_
                    refine ps_st (S' := (151, [(3, .int ((nI i) + 1)), (2, .int (nI (p + 6 + by4 f (p + 2)))), (0, .ref ac), (1, .ref a)], [], M118)) rfl rfl rfl ?_
                    rw [nI_add1 (p := i) (k := 1) (x := 1) rfl (by omega)]
                    show pl _ _ _ (_, [(3, .int (nI (i + 1))), (2, .int (nI (p + 6 + by4 f (p + 2)))), (0, .ref ac), (1, .ref a)], [], M118) _
                    refine ps_st (S' := (12, [(0, .ref ac), (1, .ref a), (2, .int (nI (p + 6 + by4 f (p + 2)))), (3, .int (nI (i + 1)))], [], M118)) rfl rfl rfl ?_
                    exact ih (i + 1) (p + 6 + by4 f (p + 2)) ((s'129)) (1) (t1 + 2) (kn2) (ex2) (.ref t1) M118 h130 h135 h136 h137 h131 h132 hV139 hF138 (tp134) (by omega) (by omega) (q94_l) (Or.inr ⟨rfl, _, rfl⟩) (hq7) (by
                        rw [← hs9, maS_st (i := i) (by omega), q38_s]
                        dsimp only
                        rw [if_neg (fun h => h.2 hfe)]
                        rw [if_pos (by omega), q94_s])
              · have c_71 : ¬ ((nI x75) = (nI (p + 6 + by4 f (p + 2)))) := of_decide_eq_false c_71
                have n_71 : ¬ (x75 = p + 6 + by4 f (p + 2)) := fun h9 => c_71 ((eq_nI (p := x75) (n := p + 6 + by4 f (p + 2)) (by omega) (by omega)).mpr h9)
                have hfe : ¬ s_fe f (mkN f n E (by2 f p)) (p + 6) (p + 6 + by4 f (p + 2)) = some (p + 6 + by4 f (p + 2)) := by rw [q63_s]; exact fun h => n_71 (Option.some.inj h)
                refine ps_st (S' := (75, [(4, .int (nI (mkN f n E (by2 f p)))), (0, .ref ac), (1, .ref a), (2, .int (nI p)), (3, .int (nI i))], [.ref ac], M24)) rfl rfl rfl ?_
                refine ps_get (S' := (78, [(4, .int (nI (mkN f n E (by2 f p)))), (0, .ref ac), (1, .ref a), (2, .int (nI p)), (3, .int (nI i))], [.ref vd], M24)) rfl h38 rfl rfl ?_
                refine ps_st (S' := (80, [(4, .int (nI (mkN f n E (by2 f p)))), (0, .ref ac), (1, .ref a), (2, .int (nI p)), (3, .int (nI i))], [.int 30, .ref vd], M24)) rfl rfl rfl ?_
                refine ps_st (S' := (81, [(4, .int (nI (mkN f n E (by2 f p)))), (0, .ref ac), (1, .ref a), (2, .int (nI p)), (3, .int (nI i))], [.int (nI p), .int 30, .ref vd], M24)) rfl rfl rfl ?_
                refine pl_call (a := [.ref vd, .int 30, .int (nI p)]) (rest := []) rfl rfl rfl (dk_wrong (vd := vd) (ru := ru) (wa := wa) (x1 := 30) (x2 := (nI p)) h39) (fun v143 M144 q145 => ?_)
                obtain ⟨rfl, h146, f147⟩ := q145
                have h149 := (f147.1 ac (nin1 (ob_ne h38 h39 (by decide)))).trans h38
                have h150 := (f147.1 b (nin1 (ob_ne h42 h39 (by decide)))).trans h42
                have h151 := (f147.1 da (nin1 (Ne.symm (ob_ar h39 h43)))).trans h43
                have h152 := (f147.1 c (nin1 (ob_ne h44 h39 (by decide)))).trans h44
                have h153 := (f147.1 a (nin1 (ob_ne h45 h39 (by decide)))).trans h45
                have hF154 := hF46.trf f147 (by intro z hz; simp only [List.mem_cons, List.not_mem_nil, or_false] at hz ⊢; try omega)
                have tp155 : M144.2.1 = t1 := by rw [f147.2]; exact tp47
                have hV156 := hV48.keep f147.gm (n7c h39 (by decide) (n7nil))
                show pl _ _ _ (84, [(4, .int (nI (mkN f n E (by2 f p)))), (0, .ref ac), (1, .ref a), (2, .int (nI p)), (3, .int (nI i))], [.int 0], M144) _
                exact ps_ret rfl rfl (Or.inr ⟨(30, p), by
                    rw [← hs9, maS_st (i := i) (by omega), q38_s]
                    dsimp only
                    rw [if_pos ⟨n_48, hfe⟩], rfl, h146, hF154, hF154.2⟩)
  refine ps_st (S' := (1, [(0, .ref ac), (1, .ref a)], [.ref ac], M)) rfl rfl rfl ?_
  refine ps_st (S' := (2, [(0, .ref ac), (1, .ref a)], [.int 0, .ref ac], M)) rfl rfl rfl ?_
  refine ps_put (l' := [.ref c, .ref b, .ref q, .ref vd, .int 0]) rfl h_ac rfl rfl (fun M157 h158 f159 z160 => ?_)
  have h161 := (f159 b (ob_ne h_b h_ac (by decide))).trans h_b
  have h162 := (f159 da (Ne.symm (ob_ar h_ac h_da))).trans h_da
  have h163 := (f159 c (ob_ne h_c h_ac (by decide))).trans h_c
  have h164 := (f159 vd (ob_ne h_vd h_ac (by decide))).trans h_vd
  have h165 := (f159 a (ob_ne h_a h_ac (by decide))).trans h_a
  have hV166 := hV.put h_ac (by decide) f159 z160
  have hF167 := hF.up (Or.inl (by simp)) f159 (by rw [z160]; exact Nat.le_refl _)
  have tp168 : M157.2.1 = z0 := by rw [z160]; exact tp0
  show pl _ _ _ (5, [(0, .ref ac), (1, .ref a)], [], M157) _
  refine ps_st (S' := (6, [(0, .ref ac), (1, .ref a)], [.ref a], M157)) rfl rfl rfl ?_
  refine ps_get (S' := (9, [(0, .ref ac), (1, .ref a)], [.int (nI (b0 + 8))], M157)) rfl h165 rfl rfl ?_
  refine ps_st (S' := (10, [(2, .int (nI (b0 + 8))), (0, .ref ac), (1, .ref a)], [], M157)) rfl rfl rfl ?_
  refine ps_st (S' := (11, [(2, .int (nI (b0 + 8))), (0, .ref ac), (1, .ref a)], [.int 0], M157)) rfl rfl rfl ?_
  refine ps_st (S' := (12, [(0, .ref ac), (1, .ref a), (2, .int (nI (b0 + 8))), (3, .int 0)], [], M157)) rfl rfl rfl ?_
  exact (LL kf) (0) (b0 + 8) (0) (0) (z0) (kn) (ex) (.null) M157 h158 h161 h162 h163 h164 h165 hV166 hF167 (tp168) (Nat.le_refl _) (by omega) (by decide) (Or.inl ⟨rfl, rfl⟩) (hat) (rfl)
set_option maxHeartbeats 4000000 in
theorem dk_bitCountN {g : xe_G} {M : mi_H} {y : Nat}  (hy : y < 2048) : pt (mT g) 257 [.int (nI y)] M (fun v M' => (v = some (.int (nI (popN y))) ∧ M = M')) := by
  refine pt_in (b := mb_257 g) rfl (fun kf => ?_)
  show pl (mT g) kf (mb_257 g).2 (0, [(0, .int (nI y))], [], M) _
  refine ps_st (S' := (1, [(0, .int (nI y))], [.int (nI y)], M)) rfl rfl rfl ?_
  refine ps_st (S' := (2, [(0, .int (nI y))], [.int (nI y), .int (nI y)], M)) rfl rfl rfl ?_
  refine ps_st (S' := (3, [(0, .int (nI y))], [.int 1, .int (nI y), .int (nI y)], M)) rfl rfl rfl ?_
  refine ps_st (S' := (4, [(0, .int (nI y))], [.int (((nI y).toUInt32 >>> ((1 : Int32).toUInt32 &&& Int32.toUInt32 31)).toInt32), .int (nI y)], M)) rfl rfl rfl ?_
  refine ps_st (S' := (7, [(0, .int (nI y))], [.int 1431655765, .int (((nI y).toUInt32 >>> ((1 : Int32).toUInt32 &&& Int32.toUInt32 31)).toInt32), .int (nI y)], M)) rfl rfl rfl ?_
  refine ps_st (S' := (8, [(0, .int (nI y))], [.int ((((nI y).toUInt32 >>> ((1 : Int32).toUInt32 &&& Int32.toUInt32 31)).toInt32) &&& 1431655765), .int (nI y)], M)) rfl rfl rfl ?_
  refine ps_st (S' := (9, [(0, .int (nI y))], [.int ((nI y) - ((((nI y).toUInt32 >>> ((1 : Int32).toUInt32 &&& Int32.toUInt32 31)).toInt32) &&& 1431655765))], M)) rfl rfl rfl ?_
  refine ps_st (S' := (10, [(0, .int ((nI y) - ((((nI y).toUInt32 >>> ((1 : Int32).toUInt32 &&& Int32.toUInt32 31)).toInt32) &&& 1431655765)))], [], M)) rfl rfl rfl ?_
  refine ps_st (S' := (11, [(0, .int ((nI y) - ((((nI y).toUInt32 >>> ((1 : Int32).toUInt32 &&& Int32.toUInt32 31)).toInt32) &&& 1431655765)))], [.int ((nI y) - ((((nI y).toUInt32 >>> ((1 : Int32).toUInt32 &&& Int32.toUInt32 31)).toInt32) &&& 1431655765))], M)) rfl rfl rfl ?_
  refine ps_st (S' := (14, [(0, .int ((nI y) - ((((nI y).toUInt32 >>> ((1 : Int32).toUInt32 &&& Int32.toUInt32 31)).toInt32) &&& 1431655765)))], [.int 858993459, .int ((nI y) - ((((nI y).toUInt32 >>> ((1 : Int32).toUInt32 &&& Int32.toUInt32 31)).toInt32) &&& 1431655765))], M)) rfl rfl rfl ?_
  refine ps_st (S' := (15, [(0, .int ((nI y) - ((((nI y).toUInt32 >>> ((1 : Int32).toUInt32 &&& Int32.toUInt32 31)).toInt32) &&& 1431655765)))], [.int (((nI y) - ((((nI y).toUInt32 >>> ((1 : Int32).toUInt32 &&& Int32.toUInt32 31)).toInt32) &&& 1431655765)) &&& 858993459)], M)) rfl rfl rfl ?_
  refine ps_st (S' := (16, [(0, .int ((nI y) - ((((nI y).toUInt32 >>> ((1 : Int32).toUInt32 &&& Int32.toUInt32 31)).toInt32) &&& 1431655765)))], [.int ((nI y) - ((((nI y).toUInt32 >>> ((1 : Int32).toUInt32 &&& Int32.toUInt32 31)).toInt32) &&& 1431655765)), .int (((nI y) - ((((nI y).toUInt32 >>> ((1 : Int32).toUInt32 &&& Int32.toUInt32 31)).toInt32) &&& 1431655765)) &&& 858993459)], M)) rfl rfl rfl ?_
  refine ps_st (S' := (17, [(0, .int ((nI y) - ((((nI y).toUInt32 >>> ((1 : Int32).toUInt32 &&& Int32.toUInt32 31)).toInt32) &&& 1431655765)))], [.int 2, .int ((nI y) - ((((nI y).toUInt32 >>> ((1 : Int32).toUInt32 &&& Int32.toUInt32 31)).toInt32) &&& 1431655765)), .int (((nI y) - ((((nI y).toUInt32 >>> ((1 : Int32).toUInt32 &&& Int32.toUInt32 31)).toInt32) &&& 1431655765)) &&& 858993459)], M)) rfl rfl rfl ?_
  refine ps_st (S' := (18, [(0, .int ((nI y) - ((((nI y).toUInt32 >>> ((1 : Int32).toUInt32 &&& Int32.toUInt32 31)).toInt32) &&& 1431655765)))], [.int ((((nI y) - ((((nI y).toUInt32 >>> ((1 : Int32).toUInt32 &&& Int32.toUInt32 31)).toInt32) &&& 1431655765)).toUInt32 >>> ((2 : Int32).toUInt32 &&& Int32.toUInt32 31)).toInt32), .int (((nI y) - ((((nI y).toUInt32 >>> ((1 : Int32).toUInt32 &&& Int32.toUInt32 31)).toInt32) &&& 1431655765)) &&& 858993459)], M)) rfl rfl rfl ?_
  refine ps_st (S' := (21, [(0, .int ((nI y) - ((((nI y).toUInt32 >>> ((1 : Int32).toUInt32 &&& Int32.toUInt32 31)).toInt32) &&& 1431655765)))], [.int 858993459, .int ((((nI y) - ((((nI y).toUInt32 >>> ((1 : Int32).toUInt32 &&& Int32.toUInt32 31)).toInt32) &&& 1431655765)).toUInt32 >>> ((2 : Int32).toUInt32 &&& Int32.toUInt32 31)).toInt32), .int (((nI y) - ((((nI y).toUInt32 >>> ((1 : Int32).toUInt32 &&& Int32.toUInt32 31)).toInt32) &&& 1431655765)) &&& 858993459)], M)) rfl rfl rfl ?_
  refine ps_st (S' := (22, [(0, .int ((nI y) - ((((nI y).toUInt32 >>> ((1 : Int32).toUInt32 &&& Int32.toUInt32 31)).toInt32) &&& 1431655765)))], [.int (((((nI y) - ((((nI y).toUInt32 >>> ((1 : Int32).toUInt32 &&& Int32.toUInt32 31)).toInt32) &&& 1431655765)).toUInt32 >>> ((2 : Int32).toUInt32 &&& Int32.toUInt32 31)).toInt32) &&& 858993459), .int (((nI y) - ((((nI y).toUInt32 >>> ((1 : Int32).toUInt32 &&& Int32.toUInt32 31)).toInt32) &&& 1431655765)) &&& 858993459)], M)) rfl rfl rfl ?_
  refine ps_st (S' := (23, [(0, .int ((nI y) - ((((nI y).toUInt32 >>> ((1 : Int32).toUInt32 &&& Int32.toUInt32 31)).toInt32) &&& 1431655765)))], [.int ((((nI y) - ((((nI y).toUInt32 >>> ((1 : Int32).toUInt32 &&& Int32.toUInt32 31)).toInt32) &&& 1431655765)) &&& 858993459) + (((((nI y) - ((((nI y).toUInt32 >>> ((1 : Int32).toUInt32 &&& Int32.toUInt32 31)).toInt32) &&& 1431655765)).toUInt32 >>> ((2 : Int32).toUInt32 &&& Int32.toUInt32 31)).toInt32) &&& 858993459))], M)) rfl rfl rfl ?_
  refine ps_st (S' := (24, [(0, .int ((((nI y) - ((((nI y).toUInt32 >>> ((1 : Int32).toUInt32 &&& Int32.toUInt32 31)).toInt32) &&& 1431655765)) &&& 858993459) + (((((nI y) - ((((nI y).toUInt32 >>> ((1 : Int32).toUInt32 &&& Int32.toUInt32 31)).toInt32) &&& 1431655765)).toUInt32 >>> ((2 : Int32).toUInt32 &&& Int32.toUInt32 31)).toInt32) &&& 858993459)))], [], M)) rfl rfl rfl ?_
  refine ps_st (S' := (25, [(0, .int ((((nI y) - ((((nI y).toUInt32 >>> ((1 : Int32).toUInt32 &&& Int32.toUInt32 31)).toInt32) &&& 1431655765)) &&& 858993459) + (((((nI y) - ((((nI y).toUInt32 >>> ((1 : Int32).toUInt32 &&& Int32.toUInt32 31)).toInt32) &&& 1431655765)).toUInt32 >>> ((2 : Int32).toUInt32 &&& Int32.toUInt32 31)).toInt32) &&& 858993459)))], [.int ((((nI y) - ((((nI y).toUInt32 >>> ((1 : Int32).toUInt32 &&& Int32.toUInt32 31)).toInt32) &&& 1431655765)) &&& 858993459) + (((((nI y) - ((((nI y).toUInt32 >>> ((1 : Int32).toUInt32 &&& Int32.toUInt32 31)).toInt32) &&& 1431655765)).toUInt32 >>> ((2 : Int32).toUInt32 &&& Int32.toUInt32 31)).toInt32) &&& 858993459))], M)) rfl rfl rfl ?_
  refine ps_st (S' := (26, [(0, .int ((((nI y) - ((((nI y).toUInt32 >>> ((1 : Int32).toUInt32 &&& Int32.toUInt32 31)).toInt32) &&& 1431655765)) &&& 858993459) + (((((nI y) - ((((nI y).toUInt32 >>> ((1 : Int32).toUInt32 &&& Int32.toUInt32 31)).toInt32) &&& 1431655765)).toUInt32 >>> ((2 : Int32).toUInt32 &&& Int32.toUInt32 31)).toInt32) &&& 858993459)))], [.int ((((nI y) - ((((nI y).toUInt32 >>> ((1 : Int32).toUInt32 &&& Int32.toUInt32 31)).toInt32) &&& 1431655765)) &&& 858993459) + (((((nI y) - ((((nI y).toUInt32 >>> ((1 : Int32).toUInt32 &&& Int32.toUInt32 31)).toInt32) &&& 1431655765)).toUInt32 >>> ((2 : Int32).toUInt32 &&& Int32.toUInt32 31)).toInt32) &&& 858993459)), .int ((((nI y) - ((((nI y).toUInt32 >>> ((1 : Int32).toUInt32 &&& Int32.toUInt32 31)).toInt32) &&& 1431655765)) &&& 858993459) + (((((nI y) - ((((nI y).toUInt32 >>> ((1 : Int32).toUInt32 &&& Int32.toUInt32 31)).toInt32) &&& 1431655765)).toUInt32 >>> ((2 : Int32).toUInt32 &&& Int32.toUInt32 31)).toInt32) &&& 858993459))], M)) rfl rfl rfl ?_
  refine ps_st (S' := (27, [(0, .int ((((nI y) - ((((nI y).toUInt32 >>> ((1 : Int32).toUInt32 &&& Int32.toUInt32 31)).toInt32) &&& 1431655765)) &&& 858993459) + (((((nI y) - ((((nI y).toUInt32 >>> ((1 : Int32).toUInt32 &&& Int32.toUInt32 31)).toInt32) &&& 1431655765)).toUInt32 >>> ((2 : Int32).toUInt32 &&& Int32.toUInt32 31)).toInt32) &&& 858993459)))], [.int 4, .int ((((nI y) - ((((nI y).toUInt32 >>> ((1 : Int32).toUInt32 &&& Int32.toUInt32 31)).toInt32) &&& 1431655765)) &&& 858993459) + (((((nI y) - ((((nI y).toUInt32 >>> ((1 : Int32).toUInt32 &&& Int32.toUInt32 31)).toInt32) &&& 1431655765)).toUInt32 >>> ((2 : Int32).toUInt32 &&& Int32.toUInt32 31)).toInt32) &&& 858993459)), .int ((((nI y) - ((((nI y).toUInt32 >>> ((1 : Int32).toUInt32 &&& Int32.toUInt32 31)).toInt32) &&& 1431655765)) &&& 858993459) + (((((nI y) - ((((nI y).toUInt32 >>> ((1 : Int32).toUInt32 &&& Int32.toUInt32 31)).toInt32) &&& 1431655765)).toUInt32 >>> ((2 : Int32).toUInt32 &&& Int32.toUInt32 31)).toInt32) &&& 858993459))], M)) rfl rfl rfl ?_
  refine ps_st (S' := (28, [(0, .int ((((nI y) - ((((nI y).toUInt32 >>> ((1 : Int32).toUInt32 &&& Int32.toUInt32 31)).toInt32) &&& 1431655765)) &&& 858993459) + (((((nI y) - ((((nI y).toUInt32 >>> ((1 : Int32).toUInt32 &&& Int32.toUInt32 31)).toInt32) &&& 1431655765)).toUInt32 >>> ((2 : Int32).toUInt32 &&& Int32.toUInt32 31)).toInt32) &&& 858993459)))], [.int ((((((nI y) - ((((nI y).toUInt32 >>> ((1 : Int32).toUInt32 &&& Int32.toUInt32 31)).toInt32) &&& 1431655765)) &&& 858993459) + (((((nI y) - ((((nI y).toUInt32 >>> ((1 : Int32).toUInt32 &&& Int32.toUInt32 31)).toInt32) &&& 1431655765)).toUInt32 >>> ((2 : Int32).toUInt32 &&& Int32.toUInt32 31)).toInt32) &&& 858993459)).toUInt32 >>> ((4 : Int32).toUInt32 &&& Int32.toUInt32 31)).toInt32), .int ((((nI y) - ((((nI y).toUInt32 >>> ((1 : Int32).toUInt32 &&& Int32.toUInt32 31)).toInt32) &&& 1431655765)) &&& 858993459) + (((((nI y) - ((((nI y).toUInt32 >>> ((1 : Int32).toUInt32 &&& Int32.toUInt32 31)).toInt32) &&& 1431655765)).toUInt32 >>> ((2 : Int32).toUInt32 &&& Int32.toUInt32 31)).toInt32) &&& 858993459))], M)) rfl rfl rfl ?_
  refine ps_st (S' := (29, [(0, .int ((((nI y) - ((((nI y).toUInt32 >>> ((1 : Int32).toUInt32 &&& Int32.toUInt32 31)).toInt32) &&& 1431655765)) &&& 858993459) + (((((nI y) - ((((nI y).toUInt32 >>> ((1 : Int32).toUInt32 &&& Int32.toUInt32 31)).toInt32) &&& 1431655765)).toUInt32 >>> ((2 : Int32).toUInt32 &&& Int32.toUInt32 31)).toInt32) &&& 858993459)))], [.int (((((nI y) - ((((nI y).toUInt32 >>> ((1 : Int32).toUInt32 &&& Int32.toUInt32 31)).toInt32) &&& 1431655765)) &&& 858993459) + (((((nI y) - ((((nI y).toUInt32 >>> ((1 : Int32).toUInt32 &&& Int32.toUInt32 31)).toInt32) &&& 1431655765)).toUInt32 >>> ((2 : Int32).toUInt32 &&& Int32.toUInt32 31)).toInt32) &&& 858993459)) + ((((((nI y) - ((((nI y).toUInt32 >>> ((1 : Int32).toUInt32 &&& Int32.toUInt32 31)).toInt32) &&& 1431655765)) &&& 858993459) + (((((nI y) - ((((nI y).toUInt32 >>> ((1 : Int32).toUInt32 &&& Int32.toUInt32 31)).toInt32) &&& 1431655765)).toUInt32 >>> ((2 : Int32).toUInt32 &&& Int32.toUInt32 31)).toInt32) &&& 858993459)).toUInt32 >>> ((4 : Int32).toUInt32 &&& Int32.toUInt32 31)).toInt32))], M)) rfl rfl rfl ?_
  refine ps_st (S' := (32, [(0, .int ((((nI y) - ((((nI y).toUInt32 >>> ((1 : Int32).toUInt32 &&& Int32.toUInt32 31)).toInt32) &&& 1431655765)) &&& 858993459) + (((((nI y) - ((((nI y).toUInt32 >>> ((1 : Int32).toUInt32 &&& Int32.toUInt32 31)).toInt32) &&& 1431655765)).toUInt32 >>> ((2 : Int32).toUInt32 &&& Int32.toUInt32 31)).toInt32) &&& 858993459)))], [.int 252645135, .int (((((nI y) - ((((nI y).toUInt32 >>> ((1 : Int32).toUInt32 &&& Int32.toUInt32 31)).toInt32) &&& 1431655765)) &&& 858993459) + (((((nI y) - ((((nI y).toUInt32 >>> ((1 : Int32).toUInt32 &&& Int32.toUInt32 31)).toInt32) &&& 1431655765)).toUInt32 >>> ((2 : Int32).toUInt32 &&& Int32.toUInt32 31)).toInt32) &&& 858993459)) + ((((((nI y) - ((((nI y).toUInt32 >>> ((1 : Int32).toUInt32 &&& Int32.toUInt32 31)).toInt32) &&& 1431655765)) &&& 858993459) + (((((nI y) - ((((nI y).toUInt32 >>> ((1 : Int32).toUInt32 &&& Int32.toUInt32 31)).toInt32) &&& 1431655765)).toUInt32 >>> ((2 : Int32).toUInt32 &&& Int32.toUInt32 31)).toInt32) &&& 858993459)).toUInt32 >>> ((4 : Int32).toUInt32 &&& Int32.toUInt32 31)).toInt32))], M)) rfl rfl rfl ?_
  refine ps_st (S' := (33, [(0, .int ((((nI y) - ((((nI y).toUInt32 >>> ((1 : Int32).toUInt32 &&& Int32.toUInt32 31)).toInt32) &&& 1431655765)) &&& 858993459) + (((((nI y) - ((((nI y).toUInt32 >>> ((1 : Int32).toUInt32 &&& Int32.toUInt32 31)).toInt32) &&& 1431655765)).toUInt32 >>> ((2 : Int32).toUInt32 &&& Int32.toUInt32 31)).toInt32) &&& 858993459)))], [.int ((((((nI y) - ((((nI y).toUInt32 >>> ((1 : Int32).toUInt32 &&& Int32.toUInt32 31)).toInt32) &&& 1431655765)) &&& 858993459) + (((((nI y) - ((((nI y).toUInt32 >>> ((1 : Int32).toUInt32 &&& Int32.toUInt32 31)).toInt32) &&& 1431655765)).toUInt32 >>> ((2 : Int32).toUInt32 &&& Int32.toUInt32 31)).toInt32) &&& 858993459)) + ((((((nI y) - ((((nI y).toUInt32 >>> ((1 : Int32).toUInt32 &&& Int32.toUInt32 31)).toInt32) &&& 1431655765)) &&& 858993459) + (((((nI y) - ((((nI y).toUInt32 >>> ((1 : Int32).toUInt32 &&& Int32.toUInt32 31)).toInt32) &&& 1431655765)).toUInt32 >>> ((2 : Int32).toUInt32 &&& Int32.toUInt32 31)).toInt32) &&& 858993459)).toUInt32 >>> ((4 : Int32).toUInt32 &&& Int32.toUInt32 31)).toInt32)) &&& 252645135)], M)) rfl rfl rfl ?_
  refine ps_st (S' := (34, [(0, .int ((((((nI y) - ((((nI y).toUInt32 >>> ((1 : Int32).toUInt32 &&& Int32.toUInt32 31)).toInt32) &&& 1431655765)) &&& 858993459) + (((((nI y) - ((((nI y).toUInt32 >>> ((1 : Int32).toUInt32 &&& Int32.toUInt32 31)).toInt32) &&& 1431655765)).toUInt32 >>> ((2 : Int32).toUInt32 &&& Int32.toUInt32 31)).toInt32) &&& 858993459)) + ((((((nI y) - ((((nI y).toUInt32 >>> ((1 : Int32).toUInt32 &&& Int32.toUInt32 31)).toInt32) &&& 1431655765)) &&& 858993459) + (((((nI y) - ((((nI y).toUInt32 >>> ((1 : Int32).toUInt32 &&& Int32.toUInt32 31)).toInt32) &&& 1431655765)).toUInt32 >>> ((2 : Int32).toUInt32 &&& Int32.toUInt32 31)).toInt32) &&& 858993459)).toUInt32 >>> ((4 : Int32).toUInt32 &&& Int32.toUInt32 31)).toInt32)) &&& 252645135))], [], M)) rfl rfl rfl ?_
  refine ps_st (S' := (35, [(0, .int ((((((nI y) - ((((nI y).toUInt32 >>> ((1 : Int32).toUInt32 &&& Int32.toUInt32 31)).toInt32) &&& 1431655765)) &&& 858993459) + (((((nI y) - ((((nI y).toUInt32 >>> ((1 : Int32).toUInt32 &&& Int32.toUInt32 31)).toInt32) &&& 1431655765)).toUInt32 >>> ((2 : Int32).toUInt32 &&& Int32.toUInt32 31)).toInt32) &&& 858993459)) + ((((((nI y) - ((((nI y).toUInt32 >>> ((1 : Int32).toUInt32 &&& Int32.toUInt32 31)).toInt32) &&& 1431655765)) &&& 858993459) + (((((nI y) - ((((nI y).toUInt32 >>> ((1 : Int32).toUInt32 &&& Int32.toUInt32 31)).toInt32) &&& 1431655765)).toUInt32 >>> ((2 : Int32).toUInt32 &&& Int32.toUInt32 31)).toInt32) &&& 858993459)).toUInt32 >>> ((4 : Int32).toUInt32 &&& Int32.toUInt32 31)).toInt32)) &&& 252645135))], [.int ((((((nI y) - ((((nI y).toUInt32 >>> ((1 : Int32).toUInt32 &&& Int32.toUInt32 31)).toInt32) &&& 1431655765)) &&& 858993459) + (((((nI y) - ((((nI y).toUInt32 >>> ((1 : Int32).toUInt32 &&& Int32.toUInt32 31)).toInt32) &&& 1431655765)).toUInt32 >>> ((2 : Int32).toUInt32 &&& Int32.toUInt32 31)).toInt32) &&& 858993459)) + ((((((nI y) - ((((nI y).toUInt32 >>> ((1 : Int32).toUInt32 &&& Int32.toUInt32 31)).toInt32) &&& 1431655765)) &&& 858993459) + (((((nI y) - ((((nI y).toUInt32 >>> ((1 : Int32).toUInt32 &&& Int32.toUInt32 31)).toInt32) &&& 1431655765)).toUInt32 >>> ((2 : Int32).toUInt32 &&& Int32.toUInt32 31)).toInt32) &&& 858993459)).toUInt32 >>> ((4 : Int32).toUInt32 &&& Int32.toUInt32 31)).toInt32)) &&& 252645135)], M)) rfl rfl rfl ?_
  refine ps_st (S' := (36, [(0, .int ((((((nI y) - ((((nI y).toUInt32 >>> ((1 : Int32).toUInt32 &&& Int32.toUInt32 31)).toInt32) &&& 1431655765)) &&& 858993459) + (((((nI y) - ((((nI y).toUInt32 >>> ((1 : Int32).toUInt32 &&& Int32.toUInt32 31)).toInt32) &&& 1431655765)).toUInt32 >>> ((2 : Int32).toUInt32 &&& Int32.toUInt32 31)).toInt32) &&& 858993459)) + ((((((nI y) - ((((nI y).toUInt32 >>> ((1 : Int32).toUInt32 &&& Int32.toUInt32 31)).toInt32) &&& 1431655765)) &&& 858993459) + (((((nI y) - ((((nI y).toUInt32 >>> ((1 : Int32).toUInt32 &&& Int32.toUInt32 31)).toInt32) &&& 1431655765)).toUInt32 >>> ((2 : Int32).toUInt32 &&& Int32.toUInt32 31)).toInt32) &&& 858993459)).toUInt32 >>> ((4 : Int32).toUInt32 &&& Int32.toUInt32 31)).toInt32)) &&& 252645135))], [.int ((((((nI y) - ((((nI y).toUInt32 >>> ((1 : Int32).toUInt32 &&& Int32.toUInt32 31)).toInt32) &&& 1431655765)) &&& 858993459) + (((((nI y) - ((((nI y).toUInt32 >>> ((1 : Int32).toUInt32 &&& Int32.toUInt32 31)).toInt32) &&& 1431655765)).toUInt32 >>> ((2 : Int32).toUInt32 &&& Int32.toUInt32 31)).toInt32) &&& 858993459)) + ((((((nI y) - ((((nI y).toUInt32 >>> ((1 : Int32).toUInt32 &&& Int32.toUInt32 31)).toInt32) &&& 1431655765)) &&& 858993459) + (((((nI y) - ((((nI y).toUInt32 >>> ((1 : Int32).toUInt32 &&& Int32.toUInt32 31)).toInt32) &&& 1431655765)).toUInt32 >>> ((2 : Int32).toUInt32 &&& Int32.toUInt32 31)).toInt32) &&& 858993459)).toUInt32 >>> ((4 : Int32).toUInt32 &&& Int32.toUInt32 31)).toInt32)) &&& 252645135), .int ((((((nI y) - ((((nI y).toUInt32 >>> ((1 : Int32).toUInt32 &&& Int32.toUInt32 31)).toInt32) &&& 1431655765)) &&& 858993459) + (((((nI y) - ((((nI y).toUInt32 >>> ((1 : Int32).toUInt32 &&& Int32.toUInt32 31)).toInt32) &&& 1431655765)).toUInt32 >>> ((2 : Int32).toUInt32 &&& Int32.toUInt32 31)).toInt32) &&& 858993459)) + ((((((nI y) - ((((nI y).toUInt32 >>> ((1 : Int32).toUInt32 &&& Int32.toUInt32 31)).toInt32) &&& 1431655765)) &&& 858993459) + (((((nI y) - ((((nI y).toUInt32 >>> ((1 : Int32).toUInt32 &&& Int32.toUInt32 31)).toInt32) &&& 1431655765)).toUInt32 >>> ((2 : Int32).toUInt32 &&& Int32.toUInt32 31)).toInt32) &&& 858993459)).toUInt32 >>> ((4 : Int32).toUInt32 &&& Int32.toUInt32 31)).toInt32)) &&& 252645135)], M)) rfl rfl rfl ?_
  refine ps_st (S' := (38, [(0, .int ((((((nI y) - ((((nI y).toUInt32 >>> ((1 : Int32).toUInt32 &&& Int32.toUInt32 31)).toInt32) &&& 1431655765)) &&& 858993459) + (((((nI y) - ((((nI y).toUInt32 >>> ((1 : Int32).toUInt32 &&& Int32.toUInt32 31)).toInt32) &&& 1431655765)).toUInt32 >>> ((2 : Int32).toUInt32 &&& Int32.toUInt32 31)).toInt32) &&& 858993459)) + ((((((nI y) - ((((nI y).toUInt32 >>> ((1 : Int32).toUInt32 &&& Int32.toUInt32 31)).toInt32) &&& 1431655765)) &&& 858993459) + (((((nI y) - ((((nI y).toUInt32 >>> ((1 : Int32).toUInt32 &&& Int32.toUInt32 31)).toInt32) &&& 1431655765)).toUInt32 >>> ((2 : Int32).toUInt32 &&& Int32.toUInt32 31)).toInt32) &&& 858993459)).toUInt32 >>> ((4 : Int32).toUInt32 &&& Int32.toUInt32 31)).toInt32)) &&& 252645135))], [.int 8, .int ((((((nI y) - ((((nI y).toUInt32 >>> ((1 : Int32).toUInt32 &&& Int32.toUInt32 31)).toInt32) &&& 1431655765)) &&& 858993459) + (((((nI y) - ((((nI y).toUInt32 >>> ((1 : Int32).toUInt32 &&& Int32.toUInt32 31)).toInt32) &&& 1431655765)).toUInt32 >>> ((2 : Int32).toUInt32 &&& Int32.toUInt32 31)).toInt32) &&& 858993459)) + ((((((nI y) - ((((nI y).toUInt32 >>> ((1 : Int32).toUInt32 &&& Int32.toUInt32 31)).toInt32) &&& 1431655765)) &&& 858993459) + (((((nI y) - ((((nI y).toUInt32 >>> ((1 : Int32).toUInt32 &&& Int32.toUInt32 31)).toInt32) &&& 1431655765)).toUInt32 >>> ((2 : Int32).toUInt32 &&& Int32.toUInt32 31)).toInt32) &&& 858993459)).toUInt32 >>> ((4 : Int32).toUInt32 &&& Int32.toUInt32 31)).toInt32)) &&& 252645135), .int ((((((nI y) - ((((nI y).toUInt32 >>> ((1 : Int32).toUInt32 &&& Int32.toUInt32 31)).toInt32) &&& 1431655765)) &&& 858993459) + (((((nI y) - ((((nI y).toUInt32 >>> ((1 : Int32).toUInt32 &&& Int32.toUInt32 31)).toInt32) &&& 1431655765)).toUInt32 >>> ((2 : Int32).toUInt32 &&& Int32.toUInt32 31)).toInt32) &&& 858993459)) + ((((((nI y) - ((((nI y).toUInt32 >>> ((1 : Int32).toUInt32 &&& Int32.toUInt32 31)).toInt32) &&& 1431655765)) &&& 858993459) + (((((nI y) - ((((nI y).toUInt32 >>> ((1 : Int32).toUInt32 &&& Int32.toUInt32 31)).toInt32) &&& 1431655765)).toUInt32 >>> ((2 : Int32).toUInt32 &&& Int32.toUInt32 31)).toInt32) &&& 858993459)).toUInt32 >>> ((4 : Int32).toUInt32 &&& Int32.toUInt32 31)).toInt32)) &&& 252645135)], M)) rfl rfl rfl ?_
  refine ps_st (S' := (39, [(0, .int ((((((nI y) - ((((nI y).toUInt32 >>> ((1 : Int32).toUInt32 &&& Int32.toUInt32 31)).toInt32) &&& 1431655765)) &&& 858993459) + (((((nI y) - ((((nI y).toUInt32 >>> ((1 : Int32).toUInt32 &&& Int32.toUInt32 31)).toInt32) &&& 1431655765)).toUInt32 >>> ((2 : Int32).toUInt32 &&& Int32.toUInt32 31)).toInt32) &&& 858993459)) + ((((((nI y) - ((((nI y).toUInt32 >>> ((1 : Int32).toUInt32 &&& Int32.toUInt32 31)).toInt32) &&& 1431655765)) &&& 858993459) + (((((nI y) - ((((nI y).toUInt32 >>> ((1 : Int32).toUInt32 &&& Int32.toUInt32 31)).toInt32) &&& 1431655765)).toUInt32 >>> ((2 : Int32).toUInt32 &&& Int32.toUInt32 31)).toInt32) &&& 858993459)).toUInt32 >>> ((4 : Int32).toUInt32 &&& Int32.toUInt32 31)).toInt32)) &&& 252645135))], [.int ((((((((nI y) - ((((nI y).toUInt32 >>> ((1 : Int32).toUInt32 &&& Int32.toUInt32 31)).toInt32) &&& 1431655765)) &&& 858993459) + (((((nI y) - ((((nI y).toUInt32 >>> ((1 : Int32).toUInt32 &&& Int32.toUInt32 31)).toInt32) &&& 1431655765)).toUInt32 >>> ((2 : Int32).toUInt32 &&& Int32.toUInt32 31)).toInt32) &&& 858993459)) + ((((((nI y) - ((((nI y).toUInt32 >>> ((1 : Int32).toUInt32 &&& Int32.toUInt32 31)).toInt32) &&& 1431655765)) &&& 858993459) + (((((nI y) - ((((nI y).toUInt32 >>> ((1 : Int32).toUInt32 &&& Int32.toUInt32 31)).toInt32) &&& 1431655765)).toUInt32 >>> ((2 : Int32).toUInt32 &&& Int32.toUInt32 31)).toInt32) &&& 858993459)).toUInt32 >>> ((4 : Int32).toUInt32 &&& Int32.toUInt32 31)).toInt32)) &&& 252645135).toUInt32 >>> ((8 : Int32).toUInt32 &&& Int32.toUInt32 31)).toInt32), .int ((((((nI y) - ((((nI y).toUInt32 >>> ((1 : Int32).toUInt32 &&& Int32.toUInt32 31)).toInt32) &&& 1431655765)) &&& 858993459) + (((((nI y) - ((((nI y).toUInt32 >>> ((1 : Int32).toUInt32 &&& Int32.toUInt32 31)).toInt32) &&& 1431655765)).toUInt32 >>> ((2 : Int32).toUInt32 &&& Int32.toUInt32 31)).toInt32) &&& 858993459)) + ((((((nI y) - ((((nI y).toUInt32 >>> ((1 : Int32).toUInt32 &&& Int32.toUInt32 31)).toInt32) &&& 1431655765)) &&& 858993459) + (((((nI y) - ((((nI y).toUInt32 >>> ((1 : Int32).toUInt32 &&& Int32.toUInt32 31)).toInt32) &&& 1431655765)).toUInt32 >>> ((2 : Int32).toUInt32 &&& Int32.toUInt32 31)).toInt32) &&& 858993459)).toUInt32 >>> ((4 : Int32).toUInt32 &&& Int32.toUInt32 31)).toInt32)) &&& 252645135)], M)) rfl rfl rfl ?_
  refine ps_st (S' := (40, [(0, .int ((((((nI y) - ((((nI y).toUInt32 >>> ((1 : Int32).toUInt32 &&& Int32.toUInt32 31)).toInt32) &&& 1431655765)) &&& 858993459) + (((((nI y) - ((((nI y).toUInt32 >>> ((1 : Int32).toUInt32 &&& Int32.toUInt32 31)).toInt32) &&& 1431655765)).toUInt32 >>> ((2 : Int32).toUInt32 &&& Int32.toUInt32 31)).toInt32) &&& 858993459)) + ((((((nI y) - ((((nI y).toUInt32 >>> ((1 : Int32).toUInt32 &&& Int32.toUInt32 31)).toInt32) &&& 1431655765)) &&& 858993459) + (((((nI y) - ((((nI y).toUInt32 >>> ((1 : Int32).toUInt32 &&& Int32.toUInt32 31)).toInt32) &&& 1431655765)).toUInt32 >>> ((2 : Int32).toUInt32 &&& Int32.toUInt32 31)).toInt32) &&& 858993459)).toUInt32 >>> ((4 : Int32).toUInt32 &&& Int32.toUInt32 31)).toInt32)) &&& 252645135))], [.int (((((((nI y) - ((((nI y).toUInt32 >>> ((1 : Int32).toUInt32 &&& Int32.toUInt32 31)).toInt32) &&& 1431655765)) &&& 858993459) + (((((nI y) - ((((nI y).toUInt32 >>> ((1 : Int32).toUInt32 &&& Int32.toUInt32 31)).toInt32) &&& 1431655765)).toUInt32 >>> ((2 : Int32).toUInt32 &&& Int32.toUInt32 31)).toInt32) &&& 858993459)) + ((((((nI y) - ((((nI y).toUInt32 >>> ((1 : Int32).toUInt32 &&& Int32.toUInt32 31)).toInt32) &&& 1431655765)) &&& 858993459) + (((((nI y) - ((((nI y).toUInt32 >>> ((1 : Int32).toUInt32 &&& Int32.toUInt32 31)).toInt32) &&& 1431655765)).toUInt32 >>> ((2 : Int32).toUInt32 &&& Int32.toUInt32 31)).toInt32) &&& 858993459)).toUInt32 >>> ((4 : Int32).toUInt32 &&& Int32.toUInt32 31)).toInt32)) &&& 252645135) + ((((((((nI y) - ((((nI y).toUInt32 >>> ((1 : Int32).toUInt32 &&& Int32.toUInt32 31)).toInt32) &&& 1431655765)) &&& 858993459) + (((((nI y) - ((((nI y).toUInt32 >>> ((1 : Int32).toUInt32 &&& Int32.toUInt32 31)).toInt32) &&& 1431655765)).toUInt32 >>> ((2 : Int32).toUInt32 &&& Int32.toUInt32 31)).toInt32) &&& 858993459)) + ((((((nI y) - ((((nI y).toUInt32 >>> ((1 : Int32).toUInt32 &&& Int32.toUInt32 31)).toInt32) &&& 1431655765)) &&& 858993459) + (((((nI y) - ((((nI y).toUInt32 >>> ((1 : Int32).toUInt32 &&& Int32.toUInt32 31)).toInt32) &&& 1431655765)).toUInt32 >>> ((2 : Int32).toUInt32 &&& Int32.toUInt32 31)).toInt32) &&& 858993459)).toUInt32 >>> ((4 : Int32).toUInt32 &&& Int32.toUInt32 31)).toInt32)) &&& 252645135).toUInt32 >>> ((8 : Int32).toUInt32 &&& Int32.toUInt32 31)).toInt32))], M)) rfl rfl rfl ?_
  refine ps_st (S' := (41, [(0, .int (((((((nI y) - ((((nI y).toUInt32 >>> ((1 : Int32).toUInt32 &&& Int32.toUInt32 31)).toInt32) &&& 1431655765)) &&& 858993459) + (((((nI y) - ((((nI y).toUInt32 >>> ((1 : Int32).toUInt32 &&& Int32.toUInt32 31)).toInt32) &&& 1431655765)).toUInt32 >>> ((2 : Int32).toUInt32 &&& Int32.toUInt32 31)).toInt32) &&& 858993459)) + ((((((nI y) - ((((nI y).toUInt32 >>> ((1 : Int32).toUInt32 &&& Int32.toUInt32 31)).toInt32) &&& 1431655765)) &&& 858993459) + (((((nI y) - ((((nI y).toUInt32 >>> ((1 : Int32).toUInt32 &&& Int32.toUInt32 31)).toInt32) &&& 1431655765)).toUInt32 >>> ((2 : Int32).toUInt32 &&& Int32.toUInt32 31)).toInt32) &&& 858993459)).toUInt32 >>> ((4 : Int32).toUInt32 &&& Int32.toUInt32 31)).toInt32)) &&& 252645135) + ((((((((nI y) - ((((nI y).toUInt32 >>> ((1 : Int32).toUInt32 &&& Int32.toUInt32 31)).toInt32) &&& 1431655765)) &&& 858993459) + (((((nI y) - ((((nI y).toUInt32 >>> ((1 : Int32).toUInt32 &&& Int32.toUInt32 31)).toInt32) &&& 1431655765)).toUInt32 >>> ((2 : Int32).toUInt32 &&& Int32.toUInt32 31)).toInt32) &&& 858993459)) + ((((((nI y) - ((((nI y).toUInt32 >>> ((1 : Int32).toUInt32 &&& Int32.toUInt32 31)).toInt32) &&& 1431655765)) &&& 858993459) + (((((nI y) - ((((nI y).toUInt32 >>> ((1 : Int32).toUInt32 &&& Int32.toUInt32 31)).toInt32) &&& 1431655765)).toUInt32 >>> ((2 : Int32).toUInt32 &&& Int32.toUInt32 31)).toInt32) &&& 858993459)).toUInt32 >>> ((4 : Int32).toUInt32 &&& Int32.toUInt32 31)).toInt32)) &&& 252645135).toUInt32 >>> ((8 : Int32).toUInt32 &&& Int32.toUInt32 31)).toInt32)))], [], M)) rfl rfl rfl ?_
  refine ps_st (S' := (42, [(0, .int (((((((nI y) - ((((nI y).toUInt32 >>> ((1 : Int32).toUInt32 &&& Int32.toUInt32 31)).toInt32) &&& 1431655765)) &&& 858993459) + (((((nI y) - ((((nI y).toUInt32 >>> ((1 : Int32).toUInt32 &&& Int32.toUInt32 31)).toInt32) &&& 1431655765)).toUInt32 >>> ((2 : Int32).toUInt32 &&& Int32.toUInt32 31)).toInt32) &&& 858993459)) + ((((((nI y) - ((((nI y).toUInt32 >>> ((1 : Int32).toUInt32 &&& Int32.toUInt32 31)).toInt32) &&& 1431655765)) &&& 858993459) + (((((nI y) - ((((nI y).toUInt32 >>> ((1 : Int32).toUInt32 &&& Int32.toUInt32 31)).toInt32) &&& 1431655765)).toUInt32 >>> ((2 : Int32).toUInt32 &&& Int32.toUInt32 31)).toInt32) &&& 858993459)).toUInt32 >>> ((4 : Int32).toUInt32 &&& Int32.toUInt32 31)).toInt32)) &&& 252645135) + ((((((((nI y) - ((((nI y).toUInt32 >>> ((1 : Int32).toUInt32 &&& Int32.toUInt32 31)).toInt32) &&& 1431655765)) &&& 858993459) + (((((nI y) - ((((nI y).toUInt32 >>> ((1 : Int32).toUInt32 &&& Int32.toUInt32 31)).toInt32) &&& 1431655765)).toUInt32 >>> ((2 : Int32).toUInt32 &&& Int32.toUInt32 31)).toInt32) &&& 858993459)) + ((((((nI y) - ((((nI y).toUInt32 >>> ((1 : Int32).toUInt32 &&& Int32.toUInt32 31)).toInt32) &&& 1431655765)) &&& 858993459) + (((((nI y) - ((((nI y).toUInt32 >>> ((1 : Int32).toUInt32 &&& Int32.toUInt32 31)).toInt32) &&& 1431655765)).toUInt32 >>> ((2 : Int32).toUInt32 &&& Int32.toUInt32 31)).toInt32) &&& 858993459)).toUInt32 >>> ((4 : Int32).toUInt32 &&& Int32.toUInt32 31)).toInt32)) &&& 252645135).toUInt32 >>> ((8 : Int32).toUInt32 &&& Int32.toUInt32 31)).toInt32)))], [.int (((((((nI y) - ((((nI y).toUInt32 >>> ((1 : Int32).toUInt32 &&& Int32.toUInt32 31)).toInt32) &&& 1431655765)) &&& 858993459) + (((((nI y) - ((((nI y).toUInt32 >>> ((1 : Int32).toUInt32 &&& Int32.toUInt32 31)).toInt32) &&& 1431655765)).toUInt32 >>> ((2 : Int32).toUInt32 &&& Int32.toUInt32 31)).toInt32) &&& 858993459)) + ((((((nI y) - ((((nI y).toUInt32 >>> ((1 : Int32).toUInt32 &&& Int32.toUInt32 31)).toInt32) &&& 1431655765)) &&& 858993459) + (((((nI y) - ((((nI y).toUInt32 >>> ((1 : Int32).toUInt32 &&& Int32.toUInt32 31)).toInt32) &&& 1431655765)).toUInt32 >>> ((2 : Int32).toUInt32 &&& Int32.toUInt32 31)).toInt32) &&& 858993459)).toUInt32 >>> ((4 : Int32).toUInt32 &&& Int32.toUInt32 31)).toInt32)) &&& 252645135) + ((((((((nI y) - ((((nI y).toUInt32 >>> ((1 : Int32).toUInt32 &&& Int32.toUInt32 31)).toInt32) &&& 1431655765)) &&& 858993459) + (((((nI y) - ((((nI y).toUInt32 >>> ((1 : Int32).toUInt32 &&& Int32.toUInt32 31)).toInt32) &&& 1431655765)).toUInt32 >>> ((2 : Int32).toUInt32 &&& Int32.toUInt32 31)).toInt32) &&& 858993459)) + ((((((nI y) - ((((nI y).toUInt32 >>> ((1 : Int32).toUInt32 &&& Int32.toUInt32 31)).toInt32) &&& 1431655765)) &&& 858993459) + (((((nI y) - ((((nI y).toUInt32 >>> ((1 : Int32).toUInt32 &&& Int32.toUInt32 31)).toInt32) &&& 1431655765)).toUInt32 >>> ((2 : Int32).toUInt32 &&& Int32.toUInt32 31)).toInt32) &&& 858993459)).toUInt32 >>> ((4 : Int32).toUInt32 &&& Int32.toUInt32 31)).toInt32)) &&& 252645135).toUInt32 >>> ((8 : Int32).toUInt32 &&& Int32.toUInt32 31)).toInt32))], M)) rfl rfl rfl ?_
  refine ps_st (S' := (43, [(0, .int (((((((nI y) - ((((nI y).toUInt32 >>> ((1 : Int32).toUInt32 &&& Int32.toUInt32 31)).toInt32) &&& 1431655765)) &&& 858993459) + (((((nI y) - ((((nI y).toUInt32 >>> ((1 : Int32).toUInt32 &&& Int32.toUInt32 31)).toInt32) &&& 1431655765)).toUInt32 >>> ((2 : Int32).toUInt32 &&& Int32.toUInt32 31)).toInt32) &&& 858993459)) + ((((((nI y) - ((((nI y).toUInt32 >>> ((1 : Int32).toUInt32 &&& Int32.toUInt32 31)).toInt32) &&& 1431655765)) &&& 858993459) + (((((nI y) - ((((nI y).toUInt32 >>> ((1 : Int32).toUInt32 &&& Int32.toUInt32 31)).toInt32) &&& 1431655765)).toUInt32 >>> ((2 : Int32).toUInt32 &&& Int32.toUInt32 31)).toInt32) &&& 858993459)).toUInt32 >>> ((4 : Int32).toUInt32 &&& Int32.toUInt32 31)).toInt32)) &&& 252645135) + ((((((((nI y) - ((((nI y).toUInt32 >>> ((1 : Int32).toUInt32 &&& Int32.toUInt32 31)).toInt32) &&& 1431655765)) &&& 858993459) + (((((nI y) - ((((nI y).toUInt32 >>> ((1 : Int32).toUInt32 &&& Int32.toUInt32 31)).toInt32) &&& 1431655765)).toUInt32 >>> ((2 : Int32).toUInt32 &&& Int32.toUInt32 31)).toInt32) &&& 858993459)) + ((((((nI y) - ((((nI y).toUInt32 >>> ((1 : Int32).toUInt32 &&& Int32.toUInt32 31)).toInt32) &&& 1431655765)) &&& 858993459) + (((((nI y) - ((((nI y).toUInt32 >>> ((1 : Int32).toUInt32 &&& Int32.toUInt32 31)).toInt32) &&& 1431655765)).toUInt32 >>> ((2 : Int32).toUInt32 &&& Int32.toUInt32 31)).toInt32) &&& 858993459)).toUInt32 >>> ((4 : Int32).toUInt32 &&& Int32.toUInt32 31)).toInt32)) &&& 252645135).toUInt32 >>> ((8 : Int32).toUInt32 &&& Int32.toUInt32 31)).toInt32)))], [.int (((((((nI y) - ((((nI y).toUInt32 >>> ((1 : Int32).toUInt32 &&& Int32.toUInt32 31)).toInt32) &&& 1431655765)) &&& 858993459) + (((((nI y) - ((((nI y).toUInt32 >>> ((1 : Int32).toUInt32 &&& Int32.toUInt32 31)).toInt32) &&& 1431655765)).toUInt32 >>> ((2 : Int32).toUInt32 &&& Int32.toUInt32 31)).toInt32) &&& 858993459)) + ((((((nI y) - ((((nI y).toUInt32 >>> ((1 : Int32).toUInt32 &&& Int32.toUInt32 31)).toInt32) &&& 1431655765)) &&& 858993459) + (((((nI y) - ((((nI y).toUInt32 >>> ((1 : Int32).toUInt32 &&& Int32.toUInt32 31)).toInt32) &&& 1431655765)).toUInt32 >>> ((2 : Int32).toUInt32 &&& Int32.toUInt32 31)).toInt32) &&& 858993459)).toUInt32 >>> ((4 : Int32).toUInt32 &&& Int32.toUInt32 31)).toInt32)) &&& 252645135) + ((((((((nI y) - ((((nI y).toUInt32 >>> ((1 : Int32).toUInt32 &&& Int32.toUInt32 31)).toInt32) &&& 1431655765)) &&& 858993459) + (((((nI y) - ((((nI y).toUInt32 >>> ((1 : Int32).toUInt32 &&& Int32.toUInt32 31)).toInt32) &&& 1431655765)).toUInt32 >>> ((2 : Int32).toUInt32 &&& Int32.toUInt32 31)).toInt32) &&& 858993459)) + ((((((nI y) - ((((nI y).toUInt32 >>> ((1 : Int32).toUInt32 &&& Int32.toUInt32 31)).toInt32) &&& 1431655765)) &&& 858993459) + (((((nI y) - ((((nI y).toUInt32 >>> ((1 : Int32).toUInt32 &&& Int32.toUInt32 31)).toInt32) &&& 1431655765)).toUInt32 >>> ((2 : Int32).toUInt32 &&& Int32.toUInt32 31)).toInt32) &&& 858993459)).toUInt32 >>> ((4 : Int32).toUInt32 &&& Int32.toUInt32 31)).toInt32)) &&& 252645135).toUInt32 >>> ((8 : Int32).toUInt32 &&& Int32.toUInt32 31)).toInt32)), .int (((((((nI y) - ((((nI y).toUInt32 >>> ((1 : Int32).toUInt32 &&& Int32.toUInt32 31)).toInt32) &&& 1431655765)) &&& 858993459) + (((((nI y) - ((((nI y).toUInt32 >>> ((1 : Int32).toUInt32 &&& Int32.toUInt32 31)).toInt32) &&& 1431655765)).toUInt32 >>> ((2 : Int32).toUInt32 &&& Int32.toUInt32 31)).toInt32) &&& 858993459)) + ((((((nI y) - ((((nI y).toUInt32 >>> ((1 : Int32).toUInt32 &&& Int32.toUInt32 31)).toInt32) &&& 1431655765)) &&& 858993459) + (((((nI y) - ((((nI y).toUInt32 >>> ((1 : Int32).toUInt32 &&& Int32.toUInt32 31)).toInt32) &&& 1431655765)).toUInt32 >>> ((2 : Int32).toUInt32 &&& Int32.toUInt32 31)).toInt32) &&& 858993459)).toUInt32 >>> ((4 : Int32).toUInt32 &&& Int32.toUInt32 31)).toInt32)) &&& 252645135) + ((((((((nI y) - ((((nI y).toUInt32 >>> ((1 : Int32).toUInt32 &&& Int32.toUInt32 31)).toInt32) &&& 1431655765)) &&& 858993459) + (((((nI y) - ((((nI y).toUInt32 >>> ((1 : Int32).toUInt32 &&& Int32.toUInt32 31)).toInt32) &&& 1431655765)).toUInt32 >>> ((2 : Int32).toUInt32 &&& Int32.toUInt32 31)).toInt32) &&& 858993459)) + ((((((nI y) - ((((nI y).toUInt32 >>> ((1 : Int32).toUInt32 &&& Int32.toUInt32 31)).toInt32) &&& 1431655765)) &&& 858993459) + (((((nI y) - ((((nI y).toUInt32 >>> ((1 : Int32).toUInt32 &&& Int32.toUInt32 31)).toInt32) &&& 1431655765)).toUInt32 >>> ((2 : Int32).toUInt32 &&& Int32.toUInt32 31)).toInt32) &&& 858993459)).toUInt32 >>> ((4 : Int32).toUInt32 &&& Int32.toUInt32 31)).toInt32)) &&& 252645135).toUInt32 >>> ((8 : Int32).toUInt32 &&& Int32.toUInt32 31)).toInt32))], M)) rfl rfl rfl ?_
  refine ps_st (S' := (45, [(0, .int (((((((nI y) - ((((nI y).toUInt32 >>> ((1 : Int32).toUInt32 &&& Int32.toUInt32 31)).toInt32) &&& 1431655765)) &&& 858993459) + (((((nI y) - ((((nI y).toUInt32 >>> ((1 : Int32).toUInt32 &&& Int32.toUInt32 31)).toInt32) &&& 1431655765)).toUInt32 >>> ((2 : Int32).toUInt32 &&& Int32.toUInt32 31)).toInt32) &&& 858993459)) + ((((((nI y) - ((((nI y).toUInt32 >>> ((1 : Int32).toUInt32 &&& Int32.toUInt32 31)).toInt32) &&& 1431655765)) &&& 858993459) + (((((nI y) - ((((nI y).toUInt32 >>> ((1 : Int32).toUInt32 &&& Int32.toUInt32 31)).toInt32) &&& 1431655765)).toUInt32 >>> ((2 : Int32).toUInt32 &&& Int32.toUInt32 31)).toInt32) &&& 858993459)).toUInt32 >>> ((4 : Int32).toUInt32 &&& Int32.toUInt32 31)).toInt32)) &&& 252645135) + ((((((((nI y) - ((((nI y).toUInt32 >>> ((1 : Int32).toUInt32 &&& Int32.toUInt32 31)).toInt32) &&& 1431655765)) &&& 858993459) + (((((nI y) - ((((nI y).toUInt32 >>> ((1 : Int32).toUInt32 &&& Int32.toUInt32 31)).toInt32) &&& 1431655765)).toUInt32 >>> ((2 : Int32).toUInt32 &&& Int32.toUInt32 31)).toInt32) &&& 858993459)) + ((((((nI y) - ((((nI y).toUInt32 >>> ((1 : Int32).toUInt32 &&& Int32.toUInt32 31)).toInt32) &&& 1431655765)) &&& 858993459) + (((((nI y) - ((((nI y).toUInt32 >>> ((1 : Int32).toUInt32 &&& Int32.toUInt32 31)).toInt32) &&& 1431655765)).toUInt32 >>> ((2 : Int32).toUInt32 &&& Int32.toUInt32 31)).toInt32) &&& 858993459)).toUInt32 >>> ((4 : Int32).toUInt32 &&& Int32.toUInt32 31)).toInt32)) &&& 252645135).toUInt32 >>> ((8 : Int32).toUInt32 &&& Int32.toUInt32 31)).toInt32)))], [.int 16, .int (((((((nI y) - ((((nI y).toUInt32 >>> ((1 : Int32).toUInt32 &&& Int32.toUInt32 31)).toInt32) &&& 1431655765)) &&& 858993459) + (((((nI y) - ((((nI y).toUInt32 >>> ((1 : Int32).toUInt32 &&& Int32.toUInt32 31)).toInt32) &&& 1431655765)).toUInt32 >>> ((2 : Int32).toUInt32 &&& Int32.toUInt32 31)).toInt32) &&& 858993459)) + ((((((nI y) - ((((nI y).toUInt32 >>> ((1 : Int32).toUInt32 &&& Int32.toUInt32 31)).toInt32) &&& 1431655765)) &&& 858993459) + (((((nI y) - ((((nI y).toUInt32 >>> ((1 : Int32).toUInt32 &&& Int32.toUInt32 31)).toInt32) &&& 1431655765)).toUInt32 >>> ((2 : Int32).toUInt32 &&& Int32.toUInt32 31)).toInt32) &&& 858993459)).toUInt32 >>> ((4 : Int32).toUInt32 &&& Int32.toUInt32 31)).toInt32)) &&& 252645135) + ((((((((nI y) - ((((nI y).toUInt32 >>> ((1 : Int32).toUInt32 &&& Int32.toUInt32 31)).toInt32) &&& 1431655765)) &&& 858993459) + (((((nI y) - ((((nI y).toUInt32 >>> ((1 : Int32).toUInt32 &&& Int32.toUInt32 31)).toInt32) &&& 1431655765)).toUInt32 >>> ((2 : Int32).toUInt32 &&& Int32.toUInt32 31)).toInt32) &&& 858993459)) + ((((((nI y) - ((((nI y).toUInt32 >>> ((1 : Int32).toUInt32 &&& Int32.toUInt32 31)).toInt32) &&& 1431655765)) &&& 858993459) + (((((nI y) - ((((nI y).toUInt32 >>> ((1 : Int32).toUInt32 &&& Int32.toUInt32 31)).toInt32) &&& 1431655765)).toUInt32 >>> ((2 : Int32).toUInt32 &&& Int32.toUInt32 31)).toInt32) &&& 858993459)).toUInt32 >>> ((4 : Int32).toUInt32 &&& Int32.toUInt32 31)).toInt32)) &&& 252645135).toUInt32 >>> ((8 : Int32).toUInt32 &&& Int32.toUInt32 31)).toInt32)), .int (((((((nI y) - ((((nI y).toUInt32 >>> ((1 : Int32).toUInt32 &&& Int32.toUInt32 31)).toInt32) &&& 1431655765)) &&& 858993459) + (((((nI y) - ((((nI y).toUInt32 >>> ((1 : Int32).toUInt32 &&& Int32.toUInt32 31)).toInt32) &&& 1431655765)).toUInt32 >>> ((2 : Int32).toUInt32 &&& Int32.toUInt32 31)).toInt32) &&& 858993459)) + ((((((nI y) - ((((nI y).toUInt32 >>> ((1 : Int32).toUInt32 &&& Int32.toUInt32 31)).toInt32) &&& 1431655765)) &&& 858993459) + (((((nI y) - ((((nI y).toUInt32 >>> ((1 : Int32).toUInt32 &&& Int32.toUInt32 31)).toInt32) &&& 1431655765)).toUInt32 >>> ((2 : Int32).toUInt32 &&& Int32.toUInt32 31)).toInt32) &&& 858993459)).toUInt32 >>> ((4 : Int32).toUInt32 &&& Int32.toUInt32 31)).toInt32)) &&& 252645135) + ((((((((nI y) - ((((nI y).toUInt32 >>> ((1 : Int32).toUInt32 &&& Int32.toUInt32 31)).toInt32) &&& 1431655765)) &&& 858993459) + (((((nI y) - ((((nI y).toUInt32 >>> ((1 : Int32).toUInt32 &&& Int32.toUInt32 31)).toInt32) &&& 1431655765)).toUInt32 >>> ((2 : Int32).toUInt32 &&& Int32.toUInt32 31)).toInt32) &&& 858993459)) + ((((((nI y) - ((((nI y).toUInt32 >>> ((1 : Int32).toUInt32 &&& Int32.toUInt32 31)).toInt32) &&& 1431655765)) &&& 858993459) + (((((nI y) - ((((nI y).toUInt32 >>> ((1 : Int32).toUInt32 &&& Int32.toUInt32 31)).toInt32) &&& 1431655765)).toUInt32 >>> ((2 : Int32).toUInt32 &&& Int32.toUInt32 31)).toInt32) &&& 858993459)).toUInt32 >>> ((4 : Int32).toUInt32 &&& Int32.toUInt32 31)).toInt32)) &&& 252645135).toUInt32 >>> ((8 : Int32).toUInt32 &&& Int32.toUInt32 31)).toInt32))], M)) rfl rfl rfl ?_
  refine ps_st (S' := (46, [(0, .int (((((((nI y) - ((((nI y).toUInt32 >>> ((1 : Int32).toUInt32 &&& Int32.toUInt32 31)).toInt32) &&& 1431655765)) &&& 858993459) + (((((nI y) - ((((nI y).toUInt32 >>> ((1 : Int32).toUInt32 &&& Int32.toUInt32 31)).toInt32) &&& 1431655765)).toUInt32 >>> ((2 : Int32).toUInt32 &&& Int32.toUInt32 31)).toInt32) &&& 858993459)) + ((((((nI y) - ((((nI y).toUInt32 >>> ((1 : Int32).toUInt32 &&& Int32.toUInt32 31)).toInt32) &&& 1431655765)) &&& 858993459) + (((((nI y) - ((((nI y).toUInt32 >>> ((1 : Int32).toUInt32 &&& Int32.toUInt32 31)).toInt32) &&& 1431655765)).toUInt32 >>> ((2 : Int32).toUInt32 &&& Int32.toUInt32 31)).toInt32) &&& 858993459)).toUInt32 >>> ((4 : Int32).toUInt32 &&& Int32.toUInt32 31)).toInt32)) &&& 252645135) + ((((((((nI y) - ((((nI y).toUInt32 >>> ((1 : Int32).toUInt32 &&& Int32.toUInt32 31)).toInt32) &&& 1431655765)) &&& 858993459) + (((((nI y) - ((((nI y).toUInt32 >>> ((1 : Int32).toUInt32 &&& Int32.toUInt32 31)).toInt32) &&& 1431655765)).toUInt32 >>> ((2 : Int32).toUInt32 &&& Int32.toUInt32 31)).toInt32) &&& 858993459)) + ((((((nI y) - ((((nI y).toUInt32 >>> ((1 : Int32).toUInt32 &&& Int32.toUInt32 31)).toInt32) &&& 1431655765)) &&& 858993459) + (((((nI y) - ((((nI y).toUInt32 >>> ((1 : Int32).toUInt32 &&& Int32.toUInt32 31)).toInt32) &&& 1431655765)).toUInt32 >>> ((2 : Int32).toUInt32 &&& Int32.toUInt32 31)).toInt32) &&& 858993459)).toUInt32 >>> ((4 : Int32).toUInt32 &&& Int32.toUInt32 31)).toInt32)) &&& 252645135).toUInt32 >>> ((8 : Int32).toUInt32 &&& Int32.toUInt32 31)).toInt32)))], [.int (((((((((nI y) - ((((nI y).toUInt32 >>> ((1 : Int32).toUInt32 &&& Int32.toUInt32 31)).toInt32) &&& 1431655765)) &&& 858993459) + (((((nI y) - ((((nI y).toUInt32 >>> ((1 : Int32).toUInt32 &&& Int32.toUInt32 31)).toInt32) &&& 1431655765)).toUInt32 >>> ((2 : Int32).toUInt32 &&& Int32.toUInt32 31)).toInt32) &&& 858993459)) + ((((((nI y) - ((((nI y).toUInt32 >>> ((1 : Int32).toUInt32 &&& Int32.toUInt32 31)).toInt32) &&& 1431655765)) &&& 858993459) + (((((nI y) - ((((nI y).toUInt32 >>> ((1 : Int32).toUInt32 &&& Int32.toUInt32 31)).toInt32) &&& 1431655765)).toUInt32 >>> ((2 : Int32).toUInt32 &&& Int32.toUInt32 31)).toInt32) &&& 858993459)).toUInt32 >>> ((4 : Int32).toUInt32 &&& Int32.toUInt32 31)).toInt32)) &&& 252645135) + ((((((((nI y) - ((((nI y).toUInt32 >>> ((1 : Int32).toUInt32 &&& Int32.toUInt32 31)).toInt32) &&& 1431655765)) &&& 858993459) + (((((nI y) - ((((nI y).toUInt32 >>> ((1 : Int32).toUInt32 &&& Int32.toUInt32 31)).toInt32) &&& 1431655765)).toUInt32 >>> ((2 : Int32).toUInt32 &&& Int32.toUInt32 31)).toInt32) &&& 858993459)) + ((((((nI y) - ((((nI y).toUInt32 >>> ((1 : Int32).toUInt32 &&& Int32.toUInt32 31)).toInt32) &&& 1431655765)) &&& 858993459) + (((((nI y) - ((((nI y).toUInt32 >>> ((1 : Int32).toUInt32 &&& Int32.toUInt32 31)).toInt32) &&& 1431655765)).toUInt32 >>> ((2 : Int32).toUInt32 &&& Int32.toUInt32 31)).toInt32) &&& 858993459)).toUInt32 >>> ((4 : Int32).toUInt32 &&& Int32.toUInt32 31)).toInt32)) &&& 252645135).toUInt32 >>> ((8 : Int32).toUInt32 &&& Int32.toUInt32 31)).toInt32)).toUInt32 >>> ((16 : Int32).toUInt32 &&& Int32.toUInt32 31)).toInt32), .int (((((((nI y) - ((((nI y).toUInt32 >>> ((1 : Int32).toUInt32 &&& Int32.toUInt32 31)).toInt32) &&& 1431655765)) &&& 858993459) + (((((nI y) - ((((nI y).toUInt32 >>> ((1 : Int32).toUInt32 &&& Int32.toUInt32 31)).toInt32) &&& 1431655765)).toUInt32 >>> ((2 : Int32).toUInt32 &&& Int32.toUInt32 31)).toInt32) &&& 858993459)) + ((((((nI y) - ((((nI y).toUInt32 >>> ((1 : Int32).toUInt32 &&& Int32.toUInt32 31)).toInt32) &&& 1431655765)) &&& 858993459) + (((((nI y) - ((((nI y).toUInt32 >>> ((1 : Int32).toUInt32 &&& Int32.toUInt32 31)).toInt32) &&& 1431655765)).toUInt32 >>> ((2 : Int32).toUInt32 &&& Int32.toUInt32 31)).toInt32) &&& 858993459)).toUInt32 >>> ((4 : Int32).toUInt32 &&& Int32.toUInt32 31)).toInt32)) &&& 252645135) + ((((((((nI y) - ((((nI y).toUInt32 >>> ((1 : Int32).toUInt32 &&& Int32.toUInt32 31)).toInt32) &&& 1431655765)) &&& 858993459) + (((((nI y) - ((((nI y).toUInt32 >>> ((1 : Int32).toUInt32 &&& Int32.toUInt32 31)).toInt32) &&& 1431655765)).toUInt32 >>> ((2 : Int32).toUInt32 &&& Int32.toUInt32 31)).toInt32) &&& 858993459)) + ((((((nI y) - ((((nI y).toUInt32 >>> ((1 : Int32).toUInt32 &&& Int32.toUInt32 31)).toInt32) &&& 1431655765)) &&& 858993459) + (((((nI y) - ((((nI y).toUInt32 >>> ((1 : Int32).toUInt32 &&& Int32.toUInt32 31)).toInt32) &&& 1431655765)).toUInt32 >>> ((2 : Int32).toUInt32 &&& Int32.toUInt32 31)).toInt32) &&& 858993459)).toUInt32 >>> ((4 : Int32).toUInt32 &&& Int32.toUInt32 31)).toInt32)) &&& 252645135).toUInt32 >>> ((8 : Int32).toUInt32 &&& Int32.toUInt32 31)).toInt32))], M)) rfl rfl rfl ?_
  refine ps_st (S' := (47, [(0, .int (((((((nI y) - ((((nI y).toUInt32 >>> ((1 : Int32).toUInt32 &&& Int32.toUInt32 31)).toInt32) &&& 1431655765)) &&& 858993459) + (((((nI y) - ((((nI y).toUInt32 >>> ((1 : Int32).toUInt32 &&& Int32.toUInt32 31)).toInt32) &&& 1431655765)).toUInt32 >>> ((2 : Int32).toUInt32 &&& Int32.toUInt32 31)).toInt32) &&& 858993459)) + ((((((nI y) - ((((nI y).toUInt32 >>> ((1 : Int32).toUInt32 &&& Int32.toUInt32 31)).toInt32) &&& 1431655765)) &&& 858993459) + (((((nI y) - ((((nI y).toUInt32 >>> ((1 : Int32).toUInt32 &&& Int32.toUInt32 31)).toInt32) &&& 1431655765)).toUInt32 >>> ((2 : Int32).toUInt32 &&& Int32.toUInt32 31)).toInt32) &&& 858993459)).toUInt32 >>> ((4 : Int32).toUInt32 &&& Int32.toUInt32 31)).toInt32)) &&& 252645135) + ((((((((nI y) - ((((nI y).toUInt32 >>> ((1 : Int32).toUInt32 &&& Int32.toUInt32 31)).toInt32) &&& 1431655765)) &&& 858993459) + (((((nI y) - ((((nI y).toUInt32 >>> ((1 : Int32).toUInt32 &&& Int32.toUInt32 31)).toInt32) &&& 1431655765)).toUInt32 >>> ((2 : Int32).toUInt32 &&& Int32.toUInt32 31)).toInt32) &&& 858993459)) + ((((((nI y) - ((((nI y).toUInt32 >>> ((1 : Int32).toUInt32 &&& Int32.toUInt32 31)).toInt32) &&& 1431655765)) &&& 858993459) + (((((nI y) - ((((nI y).toUInt32 >>> ((1 : Int32).toUInt32 &&& Int32.toUInt32 31)).toInt32) &&& 1431655765)).toUInt32 >>> ((2 : Int32).toUInt32 &&& Int32.toUInt32 31)).toInt32) &&& 858993459)).toUInt32 >>> ((4 : Int32).toUInt32 &&& Int32.toUInt32 31)).toInt32)) &&& 252645135).toUInt32 >>> ((8 : Int32).toUInt32 &&& Int32.toUInt32 31)).toInt32)))], [.int ((((((((nI y) - ((((nI y).toUInt32 >>> ((1 : Int32).toUInt32 &&& Int32.toUInt32 31)).toInt32) &&& 1431655765)) &&& 858993459) + (((((nI y) - ((((nI y).toUInt32 >>> ((1 : Int32).toUInt32 &&& Int32.toUInt32 31)).toInt32) &&& 1431655765)).toUInt32 >>> ((2 : Int32).toUInt32 &&& Int32.toUInt32 31)).toInt32) &&& 858993459)) + ((((((nI y) - ((((nI y).toUInt32 >>> ((1 : Int32).toUInt32 &&& Int32.toUInt32 31)).toInt32) &&& 1431655765)) &&& 858993459) + (((((nI y) - ((((nI y).toUInt32 >>> ((1 : Int32).toUInt32 &&& Int32.toUInt32 31)).toInt32) &&& 1431655765)).toUInt32 >>> ((2 : Int32).toUInt32 &&& Int32.toUInt32 31)).toInt32) &&& 858993459)).toUInt32 >>> ((4 : Int32).toUInt32 &&& Int32.toUInt32 31)).toInt32)) &&& 252645135) + ((((((((nI y) - ((((nI y).toUInt32 >>> ((1 : Int32).toUInt32 &&& Int32.toUInt32 31)).toInt32) &&& 1431655765)) &&& 858993459) + (((((nI y) - ((((nI y).toUInt32 >>> ((1 : Int32).toUInt32 &&& Int32.toUInt32 31)).toInt32) &&& 1431655765)).toUInt32 >>> ((2 : Int32).toUInt32 &&& Int32.toUInt32 31)).toInt32) &&& 858993459)) + ((((((nI y) - ((((nI y).toUInt32 >>> ((1 : Int32).toUInt32 &&& Int32.toUInt32 31)).toInt32) &&& 1431655765)) &&& 858993459) + (((((nI y) - ((((nI y).toUInt32 >>> ((1 : Int32).toUInt32 &&& Int32.toUInt32 31)).toInt32) &&& 1431655765)).toUInt32 >>> ((2 : Int32).toUInt32 &&& Int32.toUInt32 31)).toInt32) &&& 858993459)).toUInt32 >>> ((4 : Int32).toUInt32 &&& Int32.toUInt32 31)).toInt32)) &&& 252645135).toUInt32 >>> ((8 : Int32).toUInt32 &&& Int32.toUInt32 31)).toInt32)) + (((((((((nI y) - ((((nI y).toUInt32 >>> ((1 : Int32).toUInt32 &&& Int32.toUInt32 31)).toInt32) &&& 1431655765)) &&& 858993459) + (((((nI y) - ((((nI y).toUInt32 >>> ((1 : Int32).toUInt32 &&& Int32.toUInt32 31)).toInt32) &&& 1431655765)).toUInt32 >>> ((2 : Int32).toUInt32 &&& Int32.toUInt32 31)).toInt32) &&& 858993459)) + ((((((nI y) - ((((nI y).toUInt32 >>> ((1 : Int32).toUInt32 &&& Int32.toUInt32 31)).toInt32) &&& 1431655765)) &&& 858993459) + (((((nI y) - ((((nI y).toUInt32 >>> ((1 : Int32).toUInt32 &&& Int32.toUInt32 31)).toInt32) &&& 1431655765)).toUInt32 >>> ((2 : Int32).toUInt32 &&& Int32.toUInt32 31)).toInt32) &&& 858993459)).toUInt32 >>> ((4 : Int32).toUInt32 &&& Int32.toUInt32 31)).toInt32)) &&& 252645135) + ((((((((nI y) - ((((nI y).toUInt32 >>> ((1 : Int32).toUInt32 &&& Int32.toUInt32 31)).toInt32) &&& 1431655765)) &&& 858993459) + (((((nI y) - ((((nI y).toUInt32 >>> ((1 : Int32).toUInt32 &&& Int32.toUInt32 31)).toInt32) &&& 1431655765)).toUInt32 >>> ((2 : Int32).toUInt32 &&& Int32.toUInt32 31)).toInt32) &&& 858993459)) + ((((((nI y) - ((((nI y).toUInt32 >>> ((1 : Int32).toUInt32 &&& Int32.toUInt32 31)).toInt32) &&& 1431655765)) &&& 858993459) + (((((nI y) - ((((nI y).toUInt32 >>> ((1 : Int32).toUInt32 &&& Int32.toUInt32 31)).toInt32) &&& 1431655765)).toUInt32 >>> ((2 : Int32).toUInt32 &&& Int32.toUInt32 31)).toInt32) &&& 858993459)).toUInt32 >>> ((4 : Int32).toUInt32 &&& Int32.toUInt32 31)).toInt32)) &&& 252645135).toUInt32 >>> ((8 : Int32).toUInt32 &&& Int32.toUInt32 31)).toInt32)).toUInt32 >>> ((16 : Int32).toUInt32 &&& Int32.toUInt32 31)).toInt32))], M)) rfl rfl rfl ?_
  refine ps_st (S' := (48, [(0, .int ((((((((nI y) - ((((nI y).toUInt32 >>> ((1 : Int32).toUInt32 &&& Int32.toUInt32 31)).toInt32) &&& 1431655765)) &&& 858993459) + (((((nI y) - ((((nI y).toUInt32 >>> ((1 : Int32).toUInt32 &&& Int32.toUInt32 31)).toInt32) &&& 1431655765)).toUInt32 >>> ((2 : Int32).toUInt32 &&& Int32.toUInt32 31)).toInt32) &&& 858993459)) + ((((((nI y) - ((((nI y).toUInt32 >>> ((1 : Int32).toUInt32 &&& Int32.toUInt32 31)).toInt32) &&& 1431655765)) &&& 858993459) + (((((nI y) - ((((nI y).toUInt32 >>> ((1 : Int32).toUInt32 &&& Int32.toUInt32 31)).toInt32) &&& 1431655765)).toUInt32 >>> ((2 : Int32).toUInt32 &&& Int32.toUInt32 31)).toInt32) &&& 858993459)).toUInt32 >>> ((4 : Int32).toUInt32 &&& Int32.toUInt32 31)).toInt32)) &&& 252645135) + ((((((((nI y) - ((((nI y).toUInt32 >>> ((1 : Int32).toUInt32 &&& Int32.toUInt32 31)).toInt32) &&& 1431655765)) &&& 858993459) + (((((nI y) - ((((nI y).toUInt32 >>> ((1 : Int32).toUInt32 &&& Int32.toUInt32 31)).toInt32) &&& 1431655765)).toUInt32 >>> ((2 : Int32).toUInt32 &&& Int32.toUInt32 31)).toInt32) &&& 858993459)) + ((((((nI y) - ((((nI y).toUInt32 >>> ((1 : Int32).toUInt32 &&& Int32.toUInt32 31)).toInt32) &&& 1431655765)) &&& 858993459) + (((((nI y) - ((((nI y).toUInt32 >>> ((1 : Int32).toUInt32 &&& Int32.toUInt32 31)).toInt32) &&& 1431655765)).toUInt32 >>> ((2 : Int32).toUInt32 &&& Int32.toUInt32 31)).toInt32) &&& 858993459)).toUInt32 >>> ((4 : Int32).toUInt32 &&& Int32.toUInt32 31)).toInt32)) &&& 252645135).toUInt32 >>> ((8 : Int32).toUInt32 &&& Int32.toUInt32 31)).toInt32)) + (((((((((nI y) - ((((nI y).toUInt32 >>> ((1 : Int32).toUInt32 &&& Int32.toUInt32 31)).toInt32) &&& 1431655765)) &&& 858993459) + (((((nI y) - ((((nI y).toUInt32 >>> ((1 : Int32).toUInt32 &&& Int32.toUInt32 31)).toInt32) &&& 1431655765)).toUInt32 >>> ((2 : Int32).toUInt32 &&& Int32.toUInt32 31)).toInt32) &&& 858993459)) + ((((((nI y) - ((((nI y).toUInt32 >>> ((1 : Int32).toUInt32 &&& Int32.toUInt32 31)).toInt32) &&& 1431655765)) &&& 858993459) + (((((nI y) - ((((nI y).toUInt32 >>> ((1 : Int32).toUInt32 &&& Int32.toUInt32 31)).toInt32) &&& 1431655765)).toUInt32 >>> ((2 : Int32).toUInt32 &&& Int32.toUInt32 31)).toInt32) &&& 858993459)).toUInt32 >>> ((4 : Int32).toUInt32 &&& Int32.toUInt32 31)).toInt32)) &&& 252645135) + ((((((((nI y) - ((((nI y).toUInt32 >>> ((1 : Int32).toUInt32 &&& Int32.toUInt32 31)).toInt32) &&& 1431655765)) &&& 858993459) + (((((nI y) - ((((nI y).toUInt32 >>> ((1 : Int32).toUInt32 &&& Int32.toUInt32 31)).toInt32) &&& 1431655765)).toUInt32 >>> ((2 : Int32).toUInt32 &&& Int32.toUInt32 31)).toInt32) &&& 858993459)) + ((((((nI y) - ((((nI y).toUInt32 >>> ((1 : Int32).toUInt32 &&& Int32.toUInt32 31)).toInt32) &&& 1431655765)) &&& 858993459) + (((((nI y) - ((((nI y).toUInt32 >>> ((1 : Int32).toUInt32 &&& Int32.toUInt32 31)).toInt32) &&& 1431655765)).toUInt32 >>> ((2 : Int32).toUInt32 &&& Int32.toUInt32 31)).toInt32) &&& 858993459)).toUInt32 >>> ((4 : Int32).toUInt32 &&& Int32.toUInt32 31)).toInt32)) &&& 252645135).toUInt32 >>> ((8 : Int32).toUInt32 &&& Int32.toUInt32 31)).toInt32)).toUInt32 >>> ((16 : Int32).toUInt32 &&& Int32.toUInt32 31)).toInt32)))], [], M)) rfl rfl rfl ?_
  refine ps_st (S' := (49, [(0, .int ((((((((nI y) - ((((nI y).toUInt32 >>> ((1 : Int32).toUInt32 &&& Int32.toUInt32 31)).toInt32) &&& 1431655765)) &&& 858993459) + (((((nI y) - ((((nI y).toUInt32 >>> ((1 : Int32).toUInt32 &&& Int32.toUInt32 31)).toInt32) &&& 1431655765)).toUInt32 >>> ((2 : Int32).toUInt32 &&& Int32.toUInt32 31)).toInt32) &&& 858993459)) + ((((((nI y) - ((((nI y).toUInt32 >>> ((1 : Int32).toUInt32 &&& Int32.toUInt32 31)).toInt32) &&& 1431655765)) &&& 858993459) + (((((nI y) - ((((nI y).toUInt32 >>> ((1 : Int32).toUInt32 &&& Int32.toUInt32 31)).toInt32) &&& 1431655765)).toUInt32 >>> ((2 : Int32).toUInt32 &&& Int32.toUInt32 31)).toInt32) &&& 858993459)).toUInt32 >>> ((4 : Int32).toUInt32 &&& Int32.toUInt32 31)).toInt32)) &&& 252645135) + ((((((((nI y) - ((((nI y).toUInt32 >>> ((1 : Int32).toUInt32 &&& Int32.toUInt32 31)).toInt32) &&& 1431655765)) &&& 858993459) + (((((nI y) - ((((nI y).toUInt32 >>> ((1 : Int32).toUInt32 &&& Int32.toUInt32 31)).toInt32) &&& 1431655765)).toUInt32 >>> ((2 : Int32).toUInt32 &&& Int32.toUInt32 31)).toInt32) &&& 858993459)) + ((((((nI y) - ((((nI y).toUInt32 >>> ((1 : Int32).toUInt32 &&& Int32.toUInt32 31)).toInt32) &&& 1431655765)) &&& 858993459) + (((((nI y) - ((((nI y).toUInt32 >>> ((1 : Int32).toUInt32 &&& Int32.toUInt32 31)).toInt32) &&& 1431655765)).toUInt32 >>> ((2 : Int32).toUInt32 &&& Int32.toUInt32 31)).toInt32) &&& 858993459)).toUInt32 >>> ((4 : Int32).toUInt32 &&& Int32.toUInt32 31)).toInt32)) &&& 252645135).toUInt32 >>> ((8 : Int32).toUInt32 &&& Int32.toUInt32 31)).toInt32)) + (((((((((nI y) - ((((nI y).toUInt32 >>> ((1 : Int32).toUInt32 &&& Int32.toUInt32 31)).toInt32) &&& 1431655765)) &&& 858993459) + (((((nI y) - ((((nI y).toUInt32 >>> ((1 : Int32).toUInt32 &&& Int32.toUInt32 31)).toInt32) &&& 1431655765)).toUInt32 >>> ((2 : Int32).toUInt32 &&& Int32.toUInt32 31)).toInt32) &&& 858993459)) + ((((((nI y) - ((((nI y).toUInt32 >>> ((1 : Int32).toUInt32 &&& Int32.toUInt32 31)).toInt32) &&& 1431655765)) &&& 858993459) + (((((nI y) - ((((nI y).toUInt32 >>> ((1 : Int32).toUInt32 &&& Int32.toUInt32 31)).toInt32) &&& 1431655765)).toUInt32 >>> ((2 : Int32).toUInt32 &&& Int32.toUInt32 31)).toInt32) &&& 858993459)).toUInt32 >>> ((4 : Int32).toUInt32 &&& Int32.toUInt32 31)).toInt32)) &&& 252645135) + ((((((((nI y) - ((((nI y).toUInt32 >>> ((1 : Int32).toUInt32 &&& Int32.toUInt32 31)).toInt32) &&& 1431655765)) &&& 858993459) + (((((nI y) - ((((nI y).toUInt32 >>> ((1 : Int32).toUInt32 &&& Int32.toUInt32 31)).toInt32) &&& 1431655765)).toUInt32 >>> ((2 : Int32).toUInt32 &&& Int32.toUInt32 31)).toInt32) &&& 858993459)) + ((((((nI y) - ((((nI y).toUInt32 >>> ((1 : Int32).toUInt32 &&& Int32.toUInt32 31)).toInt32) &&& 1431655765)) &&& 858993459) + (((((nI y) - ((((nI y).toUInt32 >>> ((1 : Int32).toUInt32 &&& Int32.toUInt32 31)).toInt32) &&& 1431655765)).toUInt32 >>> ((2 : Int32).toUInt32 &&& Int32.toUInt32 31)).toInt32) &&& 858993459)).toUInt32 >>> ((4 : Int32).toUInt32 &&& Int32.toUInt32 31)).toInt32)) &&& 252645135).toUInt32 >>> ((8 : Int32).toUInt32 &&& Int32.toUInt32 31)).toInt32)).toUInt32 >>> ((16 : Int32).toUInt32 &&& Int32.toUInt32 31)).toInt32)))], [.int ((((((((nI y) - ((((nI y).toUInt32 >>> ((1 : Int32).toUInt32 &&& Int32.toUInt32 31)).toInt32) &&& 1431655765)) &&& 858993459) + (((((nI y) - ((((nI y).toUInt32 >>> ((1 : Int32).toUInt32 &&& Int32.toUInt32 31)).toInt32) &&& 1431655765)).toUInt32 >>> ((2 : Int32).toUInt32 &&& Int32.toUInt32 31)).toInt32) &&& 858993459)) + ((((((nI y) - ((((nI y).toUInt32 >>> ((1 : Int32).toUInt32 &&& Int32.toUInt32 31)).toInt32) &&& 1431655765)) &&& 858993459) + (((((nI y) - ((((nI y).toUInt32 >>> ((1 : Int32).toUInt32 &&& Int32.toUInt32 31)).toInt32) &&& 1431655765)).toUInt32 >>> ((2 : Int32).toUInt32 &&& Int32.toUInt32 31)).toInt32) &&& 858993459)).toUInt32 >>> ((4 : Int32).toUInt32 &&& Int32.toUInt32 31)).toInt32)) &&& 252645135) + ((((((((nI y) - ((((nI y).toUInt32 >>> ((1 : Int32).toUInt32 &&& Int32.toUInt32 31)).toInt32) &&& 1431655765)) &&& 858993459) + (((((nI y) - ((((nI y).toUInt32 >>> ((1 : Int32).toUInt32 &&& Int32.toUInt32 31)).toInt32) &&& 1431655765)).toUInt32 >>> ((2 : Int32).toUInt32 &&& Int32.toUInt32 31)).toInt32) &&& 858993459)) + ((((((nI y) - ((((nI y).toUInt32 >>> ((1 : Int32).toUInt32 &&& Int32.toUInt32 31)).toInt32) &&& 1431655765)) &&& 858993459) + (((((nI y) - ((((nI y).toUInt32 >>> ((1 : Int32).toUInt32 &&& Int32.toUInt32 31)).toInt32) &&& 1431655765)).toUInt32 >>> ((2 : Int32).toUInt32 &&& Int32.toUInt32 31)).toInt32) &&& 858993459)).toUInt32 >>> ((4 : Int32).toUInt32 &&& Int32.toUInt32 31)).toInt32)) &&& 252645135).toUInt32 >>> ((8 : Int32).toUInt32 &&& Int32.toUInt32 31)).toInt32)) + (((((((((nI y) - ((((nI y).toUInt32 >>> ((1 : Int32).toUInt32 &&& Int32.toUInt32 31)).toInt32) &&& 1431655765)) &&& 858993459) + (((((nI y) - ((((nI y).toUInt32 >>> ((1 : Int32).toUInt32 &&& Int32.toUInt32 31)).toInt32) &&& 1431655765)).toUInt32 >>> ((2 : Int32).toUInt32 &&& Int32.toUInt32 31)).toInt32) &&& 858993459)) + ((((((nI y) - ((((nI y).toUInt32 >>> ((1 : Int32).toUInt32 &&& Int32.toUInt32 31)).toInt32) &&& 1431655765)) &&& 858993459) + (((((nI y) - ((((nI y).toUInt32 >>> ((1 : Int32).toUInt32 &&& Int32.toUInt32 31)).toInt32) &&& 1431655765)).toUInt32 >>> ((2 : Int32).toUInt32 &&& Int32.toUInt32 31)).toInt32) &&& 858993459)).toUInt32 >>> ((4 : Int32).toUInt32 &&& Int32.toUInt32 31)).toInt32)) &&& 252645135) + ((((((((nI y) - ((((nI y).toUInt32 >>> ((1 : Int32).toUInt32 &&& Int32.toUInt32 31)).toInt32) &&& 1431655765)) &&& 858993459) + (((((nI y) - ((((nI y).toUInt32 >>> ((1 : Int32).toUInt32 &&& Int32.toUInt32 31)).toInt32) &&& 1431655765)).toUInt32 >>> ((2 : Int32).toUInt32 &&& Int32.toUInt32 31)).toInt32) &&& 858993459)) + ((((((nI y) - ((((nI y).toUInt32 >>> ((1 : Int32).toUInt32 &&& Int32.toUInt32 31)).toInt32) &&& 1431655765)) &&& 858993459) + (((((nI y) - ((((nI y).toUInt32 >>> ((1 : Int32).toUInt32 &&& Int32.toUInt32 31)).toInt32) &&& 1431655765)).toUInt32 >>> ((2 : Int32).toUInt32 &&& Int32.toUInt32 31)).toInt32) &&& 858993459)).toUInt32 >>> ((4 : Int32).toUInt32 &&& Int32.toUInt32 31)).toInt32)) &&& 252645135).toUInt32 >>> ((8 : Int32).toUInt32 &&& Int32.toUInt32 31)).toInt32)).toUInt32 >>> ((16 : Int32).toUInt32 &&& Int32.toUInt32 31)).toInt32))], M)) rfl rfl rfl ?_
  refine ps_st (S' := (51, [(0, .int ((((((((nI y) - ((((nI y).toUInt32 >>> ((1 : Int32).toUInt32 &&& Int32.toUInt32 31)).toInt32) &&& 1431655765)) &&& 858993459) + (((((nI y) - ((((nI y).toUInt32 >>> ((1 : Int32).toUInt32 &&& Int32.toUInt32 31)).toInt32) &&& 1431655765)).toUInt32 >>> ((2 : Int32).toUInt32 &&& Int32.toUInt32 31)).toInt32) &&& 858993459)) + ((((((nI y) - ((((nI y).toUInt32 >>> ((1 : Int32).toUInt32 &&& Int32.toUInt32 31)).toInt32) &&& 1431655765)) &&& 858993459) + (((((nI y) - ((((nI y).toUInt32 >>> ((1 : Int32).toUInt32 &&& Int32.toUInt32 31)).toInt32) &&& 1431655765)).toUInt32 >>> ((2 : Int32).toUInt32 &&& Int32.toUInt32 31)).toInt32) &&& 858993459)).toUInt32 >>> ((4 : Int32).toUInt32 &&& Int32.toUInt32 31)).toInt32)) &&& 252645135) + ((((((((nI y) - ((((nI y).toUInt32 >>> ((1 : Int32).toUInt32 &&& Int32.toUInt32 31)).toInt32) &&& 1431655765)) &&& 858993459) + (((((nI y) - ((((nI y).toUInt32 >>> ((1 : Int32).toUInt32 &&& Int32.toUInt32 31)).toInt32) &&& 1431655765)).toUInt32 >>> ((2 : Int32).toUInt32 &&& Int32.toUInt32 31)).toInt32) &&& 858993459)) + ((((((nI y) - ((((nI y).toUInt32 >>> ((1 : Int32).toUInt32 &&& Int32.toUInt32 31)).toInt32) &&& 1431655765)) &&& 858993459) + (((((nI y) - ((((nI y).toUInt32 >>> ((1 : Int32).toUInt32 &&& Int32.toUInt32 31)).toInt32) &&& 1431655765)).toUInt32 >>> ((2 : Int32).toUInt32 &&& Int32.toUInt32 31)).toInt32) &&& 858993459)).toUInt32 >>> ((4 : Int32).toUInt32 &&& Int32.toUInt32 31)).toInt32)) &&& 252645135).toUInt32 >>> ((8 : Int32).toUInt32 &&& Int32.toUInt32 31)).toInt32)) + (((((((((nI y) - ((((nI y).toUInt32 >>> ((1 : Int32).toUInt32 &&& Int32.toUInt32 31)).toInt32) &&& 1431655765)) &&& 858993459) + (((((nI y) - ((((nI y).toUInt32 >>> ((1 : Int32).toUInt32 &&& Int32.toUInt32 31)).toInt32) &&& 1431655765)).toUInt32 >>> ((2 : Int32).toUInt32 &&& Int32.toUInt32 31)).toInt32) &&& 858993459)) + ((((((nI y) - ((((nI y).toUInt32 >>> ((1 : Int32).toUInt32 &&& Int32.toUInt32 31)).toInt32) &&& 1431655765)) &&& 858993459) + (((((nI y) - ((((nI y).toUInt32 >>> ((1 : Int32).toUInt32 &&& Int32.toUInt32 31)).toInt32) &&& 1431655765)).toUInt32 >>> ((2 : Int32).toUInt32 &&& Int32.toUInt32 31)).toInt32) &&& 858993459)).toUInt32 >>> ((4 : Int32).toUInt32 &&& Int32.toUInt32 31)).toInt32)) &&& 252645135) + ((((((((nI y) - ((((nI y).toUInt32 >>> ((1 : Int32).toUInt32 &&& Int32.toUInt32 31)).toInt32) &&& 1431655765)) &&& 858993459) + (((((nI y) - ((((nI y).toUInt32 >>> ((1 : Int32).toUInt32 &&& Int32.toUInt32 31)).toInt32) &&& 1431655765)).toUInt32 >>> ((2 : Int32).toUInt32 &&& Int32.toUInt32 31)).toInt32) &&& 858993459)) + ((((((nI y) - ((((nI y).toUInt32 >>> ((1 : Int32).toUInt32 &&& Int32.toUInt32 31)).toInt32) &&& 1431655765)) &&& 858993459) + (((((nI y) - ((((nI y).toUInt32 >>> ((1 : Int32).toUInt32 &&& Int32.toUInt32 31)).toInt32) &&& 1431655765)).toUInt32 >>> ((2 : Int32).toUInt32 &&& Int32.toUInt32 31)).toInt32) &&& 858993459)).toUInt32 >>> ((4 : Int32).toUInt32 &&& Int32.toUInt32 31)).toInt32)) &&& 252645135).toUInt32 >>> ((8 : Int32).toUInt32 &&& Int32.toUInt32 31)).toInt32)).toUInt32 >>> ((16 : Int32).toUInt32 &&& Int32.toUInt32 31)).toInt32)))], [.int 63, .int ((((((((nI y) - ((((nI y).toUInt32 >>> ((1 : Int32).toUInt32 &&& Int32.toUInt32 31)).toInt32) &&& 1431655765)) &&& 858993459) + (((((nI y) - ((((nI y).toUInt32 >>> ((1 : Int32).toUInt32 &&& Int32.toUInt32 31)).toInt32) &&& 1431655765)).toUInt32 >>> ((2 : Int32).toUInt32 &&& Int32.toUInt32 31)).toInt32) &&& 858993459)) + ((((((nI y) - ((((nI y).toUInt32 >>> ((1 : Int32).toUInt32 &&& Int32.toUInt32 31)).toInt32) &&& 1431655765)) &&& 858993459) + (((((nI y) - ((((nI y).toUInt32 >>> ((1 : Int32).toUInt32 &&& Int32.toUInt32 31)).toInt32) &&& 1431655765)).toUInt32 >>> ((2 : Int32).toUInt32 &&& Int32.toUInt32 31)).toInt32) &&& 858993459)).toUInt32 >>> ((4 : Int32).toUInt32 &&& Int32.toUInt32 31)).toInt32)) &&& 252645135) + ((((((((nI y) - ((((nI y).toUInt32 >>> ((1 : Int32).toUInt32 &&& Int32.toUInt32 31)).toInt32) &&& 1431655765)) &&& 858993459) + (((((nI y) - ((((nI y).toUInt32 >>> ((1 : Int32).toUInt32 &&& Int32.toUInt32 31)).toInt32) &&& 1431655765)).toUInt32 >>> ((2 : Int32).toUInt32 &&& Int32.toUInt32 31)).toInt32) &&& 858993459)) + ((((((nI y) - ((((nI y).toUInt32 >>> ((1 : Int32).toUInt32 &&& Int32.toUInt32 31)).toInt32) &&& 1431655765)) &&& 858993459) + (((((nI y) - ((((nI y).toUInt32 >>> ((1 : Int32).toUInt32 &&& Int32.toUInt32 31)).toInt32) &&& 1431655765)).toUInt32 >>> ((2 : Int32).toUInt32 &&& Int32.toUInt32 31)).toInt32) &&& 858993459)).toUInt32 >>> ((4 : Int32).toUInt32 &&& Int32.toUInt32 31)).toInt32)) &&& 252645135).toUInt32 >>> ((8 : Int32).toUInt32 &&& Int32.toUInt32 31)).toInt32)) + (((((((((nI y) - ((((nI y).toUInt32 >>> ((1 : Int32).toUInt32 &&& Int32.toUInt32 31)).toInt32) &&& 1431655765)) &&& 858993459) + (((((nI y) - ((((nI y).toUInt32 >>> ((1 : Int32).toUInt32 &&& Int32.toUInt32 31)).toInt32) &&& 1431655765)).toUInt32 >>> ((2 : Int32).toUInt32 &&& Int32.toUInt32 31)).toInt32) &&& 858993459)) + ((((((nI y) - ((((nI y).toUInt32 >>> ((1 : Int32).toUInt32 &&& Int32.toUInt32 31)).toInt32) &&& 1431655765)) &&& 858993459) + (((((nI y) - ((((nI y).toUInt32 >>> ((1 : Int32).toUInt32 &&& Int32.toUInt32 31)).toInt32) &&& 1431655765)).toUInt32 >>> ((2 : Int32).toUInt32 &&& Int32.toUInt32 31)).toInt32) &&& 858993459)).toUInt32 >>> ((4 : Int32).toUInt32 &&& Int32.toUInt32 31)).toInt32)) &&& 252645135) + ((((((((nI y) - ((((nI y).toUInt32 >>> ((1 : Int32).toUInt32 &&& Int32.toUInt32 31)).toInt32) &&& 1431655765)) &&& 858993459) + (((((nI y) - ((((nI y).toUInt32 >>> ((1 : Int32).toUInt32 &&& Int32.toUInt32 31)).toInt32) &&& 1431655765)).toUInt32 >>> ((2 : Int32).toUInt32 &&& Int32.toUInt32 31)).toInt32) &&& 858993459)) + ((((((nI y) - ((((nI y).toUInt32 >>> ((1 : Int32).toUInt32 &&& Int32.toUInt32 31)).toInt32) &&& 1431655765)) &&& 858993459) + (((((nI y) - ((((nI y).toUInt32 >>> ((1 : Int32).toUInt32 &&& Int32.toUInt32 31)).toInt32) &&& 1431655765)).toUInt32 >>> ((2 : Int32).toUInt32 &&& Int32.toUInt32 31)).toInt32) &&& 858993459)).toUInt32 >>> ((4 : Int32).toUInt32 &&& Int32.toUInt32 31)).toInt32)) &&& 252645135).toUInt32 >>> ((8 : Int32).toUInt32 &&& Int32.toUInt32 31)).toInt32)).toUInt32 >>> ((16 : Int32).toUInt32 &&& Int32.toUInt32 31)).toInt32))], M)) rfl rfl rfl ?_
  refine ps_st (S' := (52, [(0, .int ((((((((nI y) - ((((nI y).toUInt32 >>> ((1 : Int32).toUInt32 &&& Int32.toUInt32 31)).toInt32) &&& 1431655765)) &&& 858993459) + (((((nI y) - ((((nI y).toUInt32 >>> ((1 : Int32).toUInt32 &&& Int32.toUInt32 31)).toInt32) &&& 1431655765)).toUInt32 >>> ((2 : Int32).toUInt32 &&& Int32.toUInt32 31)).toInt32) &&& 858993459)) + ((((((nI y) - ((((nI y).toUInt32 >>> ((1 : Int32).toUInt32 &&& Int32.toUInt32 31)).toInt32) &&& 1431655765)) &&& 858993459) + (((((nI y) - ((((nI y).toUInt32 >>> ((1 : Int32).toUInt32 &&& Int32.toUInt32 31)).toInt32) &&& 1431655765)).toUInt32 >>> ((2 : Int32).toUInt32 &&& Int32.toUInt32 31)).toInt32) &&& 858993459)).toUInt32 >>> ((4 : Int32).toUInt32 &&& Int32.toUInt32 31)).toInt32)) &&& 252645135) + ((((((((nI y) - ((((nI y).toUInt32 >>> ((1 : Int32).toUInt32 &&& Int32.toUInt32 31)).toInt32) &&& 1431655765)) &&& 858993459) + (((((nI y) - ((((nI y).toUInt32 >>> ((1 : Int32).toUInt32 &&& Int32.toUInt32 31)).toInt32) &&& 1431655765)).toUInt32 >>> ((2 : Int32).toUInt32 &&& Int32.toUInt32 31)).toInt32) &&& 858993459)) + ((((((nI y) - ((((nI y).toUInt32 >>> ((1 : Int32).toUInt32 &&& Int32.toUInt32 31)).toInt32) &&& 1431655765)) &&& 858993459) + (((((nI y) - ((((nI y).toUInt32 >>> ((1 : Int32).toUInt32 &&& Int32.toUInt32 31)).toInt32) &&& 1431655765)).toUInt32 >>> ((2 : Int32).toUInt32 &&& Int32.toUInt32 31)).toInt32) &&& 858993459)).toUInt32 >>> ((4 : Int32).toUInt32 &&& Int32.toUInt32 31)).toInt32)) &&& 252645135).toUInt32 >>> ((8 : Int32).toUInt32 &&& Int32.toUInt32 31)).toInt32)) + (((((((((nI y) - ((((nI y).toUInt32 >>> ((1 : Int32).toUInt32 &&& Int32.toUInt32 31)).toInt32) &&& 1431655765)) &&& 858993459) + (((((nI y) - ((((nI y).toUInt32 >>> ((1 : Int32).toUInt32 &&& Int32.toUInt32 31)).toInt32) &&& 1431655765)).toUInt32 >>> ((2 : Int32).toUInt32 &&& Int32.toUInt32 31)).toInt32) &&& 858993459)) + ((((((nI y) - ((((nI y).toUInt32 >>> ((1 : Int32).toUInt32 &&& Int32.toUInt32 31)).toInt32) &&& 1431655765)) &&& 858993459) + (((((nI y) - ((((nI y).toUInt32 >>> ((1 : Int32).toUInt32 &&& Int32.toUInt32 31)).toInt32) &&& 1431655765)).toUInt32 >>> ((2 : Int32).toUInt32 &&& Int32.toUInt32 31)).toInt32) &&& 858993459)).toUInt32 >>> ((4 : Int32).toUInt32 &&& Int32.toUInt32 31)).toInt32)) &&& 252645135) + ((((((((nI y) - ((((nI y).toUInt32 >>> ((1 : Int32).toUInt32 &&& Int32.toUInt32 31)).toInt32) &&& 1431655765)) &&& 858993459) + (((((nI y) - ((((nI y).toUInt32 >>> ((1 : Int32).toUInt32 &&& Int32.toUInt32 31)).toInt32) &&& 1431655765)).toUInt32 >>> ((2 : Int32).toUInt32 &&& Int32.toUInt32 31)).toInt32) &&& 858993459)) + ((((((nI y) - ((((nI y).toUInt32 >>> ((1 : Int32).toUInt32 &&& Int32.toUInt32 31)).toInt32) &&& 1431655765)) &&& 858993459) + (((((nI y) - ((((nI y).toUInt32 >>> ((1 : Int32).toUInt32 &&& Int32.toUInt32 31)).toInt32) &&& 1431655765)).toUInt32 >>> ((2 : Int32).toUInt32 &&& Int32.toUInt32 31)).toInt32) &&& 858993459)).toUInt32 >>> ((4 : Int32).toUInt32 &&& Int32.toUInt32 31)).toInt32)) &&& 252645135).toUInt32 >>> ((8 : Int32).toUInt32 &&& Int32.toUInt32 31)).toInt32)).toUInt32 >>> ((16 : Int32).toUInt32 &&& Int32.toUInt32 31)).toInt32)))], [.int (((((((((nI y) - ((((nI y).toUInt32 >>> ((1 : Int32).toUInt32 &&& Int32.toUInt32 31)).toInt32) &&& 1431655765)) &&& 858993459) + (((((nI y) - ((((nI y).toUInt32 >>> ((1 : Int32).toUInt32 &&& Int32.toUInt32 31)).toInt32) &&& 1431655765)).toUInt32 >>> ((2 : Int32).toUInt32 &&& Int32.toUInt32 31)).toInt32) &&& 858993459)) + ((((((nI y) - ((((nI y).toUInt32 >>> ((1 : Int32).toUInt32 &&& Int32.toUInt32 31)).toInt32) &&& 1431655765)) &&& 858993459) + (((((nI y) - ((((nI y).toUInt32 >>> ((1 : Int32).toUInt32 &&& Int32.toUInt32 31)).toInt32) &&& 1431655765)).toUInt32 >>> ((2 : Int32).toUInt32 &&& Int32.toUInt32 31)).toInt32) &&& 858993459)).toUInt32 >>> ((4 : Int32).toUInt32 &&& Int32.toUInt32 31)).toInt32)) &&& 252645135) + ((((((((nI y) - ((((nI y).toUInt32 >>> ((1 : Int32).toUInt32 &&& Int32.toUInt32 31)).toInt32) &&& 1431655765)) &&& 858993459) + (((((nI y) - ((((nI y).toUInt32 >>> ((1 : Int32).toUInt32 &&& Int32.toUInt32 31)).toInt32) &&& 1431655765)).toUInt32 >>> ((2 : Int32).toUInt32 &&& Int32.toUInt32 31)).toInt32) &&& 858993459)) + ((((((nI y) - ((((nI y).toUInt32 >>> ((1 : Int32).toUInt32 &&& Int32.toUInt32 31)).toInt32) &&& 1431655765)) &&& 858993459) + (((((nI y) - ((((nI y).toUInt32 >>> ((1 : Int32).toUInt32 &&& Int32.toUInt32 31)).toInt32) &&& 1431655765)).toUInt32 >>> ((2 : Int32).toUInt32 &&& Int32.toUInt32 31)).toInt32) &&& 858993459)).toUInt32 >>> ((4 : Int32).toUInt32 &&& Int32.toUInt32 31)).toInt32)) &&& 252645135).toUInt32 >>> ((8 : Int32).toUInt32 &&& Int32.toUInt32 31)).toInt32)) + (((((((((nI y) - ((((nI y).toUInt32 >>> ((1 : Int32).toUInt32 &&& Int32.toUInt32 31)).toInt32) &&& 1431655765)) &&& 858993459) + (((((nI y) - ((((nI y).toUInt32 >>> ((1 : Int32).toUInt32 &&& Int32.toUInt32 31)).toInt32) &&& 1431655765)).toUInt32 >>> ((2 : Int32).toUInt32 &&& Int32.toUInt32 31)).toInt32) &&& 858993459)) + ((((((nI y) - ((((nI y).toUInt32 >>> ((1 : Int32).toUInt32 &&& Int32.toUInt32 31)).toInt32) &&& 1431655765)) &&& 858993459) + (((((nI y) - ((((nI y).toUInt32 >>> ((1 : Int32).toUInt32 &&& Int32.toUInt32 31)).toInt32) &&& 1431655765)).toUInt32 >>> ((2 : Int32).toUInt32 &&& Int32.toUInt32 31)).toInt32) &&& 858993459)).toUInt32 >>> ((4 : Int32).toUInt32 &&& Int32.toUInt32 31)).toInt32)) &&& 252645135) + ((((((((nI y) - ((((nI y).toUInt32 >>> ((1 : Int32).toUInt32 &&& Int32.toUInt32 31)).toInt32) &&& 1431655765)) &&& 858993459) + (((((nI y) - ((((nI y).toUInt32 >>> ((1 : Int32).toUInt32 &&& Int32.toUInt32 31)).toInt32) &&& 1431655765)).toUInt32 >>> ((2 : Int32).toUInt32 &&& Int32.toUInt32 31)).toInt32) &&& 858993459)) + ((((((nI y) - ((((nI y).toUInt32 >>> ((1 : Int32).toUInt32 &&& Int32.toUInt32 31)).toInt32) &&& 1431655765)) &&& 858993459) + (((((nI y) - ((((nI y).toUInt32 >>> ((1 : Int32).toUInt32 &&& Int32.toUInt32 31)).toInt32) &&& 1431655765)).toUInt32 >>> ((2 : Int32).toUInt32 &&& Int32.toUInt32 31)).toInt32) &&& 858993459)).toUInt32 >>> ((4 : Int32).toUInt32 &&& Int32.toUInt32 31)).toInt32)) &&& 252645135).toUInt32 >>> ((8 : Int32).toUInt32 &&& Int32.toUInt32 31)).toInt32)).toUInt32 >>> ((16 : Int32).toUInt32 &&& Int32.toUInt32 31)).toInt32)) &&& 63)], M)) rfl rfl rfl ?_
  exact ps_reti rfl (⟨congrArg (fun x => some (Value.int x)) ((show ∀ y, y < 2048 → (((((((((nI y) - ((((nI y).toUInt32 >>> ((1 : Int32).toUInt32 &&& Int32.toUInt32 31)).toInt32) &&& 1431655765)) &&& 858993459) + (((((nI y) - ((((nI y).toUInt32 >>> ((1 : Int32).toUInt32 &&& Int32.toUInt32 31)).toInt32) &&& 1431655765)).toUInt32 >>> ((2 : Int32).toUInt32 &&& Int32.toUInt32 31)).toInt32) &&& 858993459)) + ((((((nI y) - ((((nI y).toUInt32 >>> ((1 : Int32).toUInt32 &&& Int32.toUInt32 31)).toInt32) &&& 1431655765)) &&& 858993459) + (((((nI y) - ((((nI y).toUInt32 >>> ((1 : Int32).toUInt32 &&& Int32.toUInt32 31)).toInt32) &&& 1431655765)).toUInt32 >>> ((2 : Int32).toUInt32 &&& Int32.toUInt32 31)).toInt32) &&& 858993459)).toUInt32 >>> ((4 : Int32).toUInt32 &&& Int32.toUInt32 31)).toInt32)) &&& 252645135) + ((((((((nI y) - ((((nI y).toUInt32 >>> ((1 : Int32).toUInt32 &&& Int32.toUInt32 31)).toInt32) &&& 1431655765)) &&& 858993459) + (((((nI y) - ((((nI y).toUInt32 >>> ((1 : Int32).toUInt32 &&& Int32.toUInt32 31)).toInt32) &&& 1431655765)).toUInt32 >>> ((2 : Int32).toUInt32 &&& Int32.toUInt32 31)).toInt32) &&& 858993459)) + ((((((nI y) - ((((nI y).toUInt32 >>> ((1 : Int32).toUInt32 &&& Int32.toUInt32 31)).toInt32) &&& 1431655765)) &&& 858993459) + (((((nI y) - ((((nI y).toUInt32 >>> ((1 : Int32).toUInt32 &&& Int32.toUInt32 31)).toInt32) &&& 1431655765)).toUInt32 >>> ((2 : Int32).toUInt32 &&& Int32.toUInt32 31)).toInt32) &&& 858993459)).toUInt32 >>> ((4 : Int32).toUInt32 &&& Int32.toUInt32 31)).toInt32)) &&& 252645135).toUInt32 >>> ((8 : Int32).toUInt32 &&& Int32.toUInt32 31)).toInt32)) + (((((((((nI y) - ((((nI y).toUInt32 >>> ((1 : Int32).toUInt32 &&& Int32.toUInt32 31)).toInt32) &&& 1431655765)) &&& 858993459) + (((((nI y) - ((((nI y).toUInt32 >>> ((1 : Int32).toUInt32 &&& Int32.toUInt32 31)).toInt32) &&& 1431655765)).toUInt32 >>> ((2 : Int32).toUInt32 &&& Int32.toUInt32 31)).toInt32) &&& 858993459)) + ((((((nI y) - ((((nI y).toUInt32 >>> ((1 : Int32).toUInt32 &&& Int32.toUInt32 31)).toInt32) &&& 1431655765)) &&& 858993459) + (((((nI y) - ((((nI y).toUInt32 >>> ((1 : Int32).toUInt32 &&& Int32.toUInt32 31)).toInt32) &&& 1431655765)).toUInt32 >>> ((2 : Int32).toUInt32 &&& Int32.toUInt32 31)).toInt32) &&& 858993459)).toUInt32 >>> ((4 : Int32).toUInt32 &&& Int32.toUInt32 31)).toInt32)) &&& 252645135) + ((((((((nI y) - ((((nI y).toUInt32 >>> ((1 : Int32).toUInt32 &&& Int32.toUInt32 31)).toInt32) &&& 1431655765)) &&& 858993459) + (((((nI y) - ((((nI y).toUInt32 >>> ((1 : Int32).toUInt32 &&& Int32.toUInt32 31)).toInt32) &&& 1431655765)).toUInt32 >>> ((2 : Int32).toUInt32 &&& Int32.toUInt32 31)).toInt32) &&& 858993459)) + ((((((nI y) - ((((nI y).toUInt32 >>> ((1 : Int32).toUInt32 &&& Int32.toUInt32 31)).toInt32) &&& 1431655765)) &&& 858993459) + (((((nI y) - ((((nI y).toUInt32 >>> ((1 : Int32).toUInt32 &&& Int32.toUInt32 31)).toInt32) &&& 1431655765)).toUInt32 >>> ((2 : Int32).toUInt32 &&& Int32.toUInt32 31)).toInt32) &&& 858993459)).toUInt32 >>> ((4 : Int32).toUInt32 &&& Int32.toUInt32 31)).toInt32)) &&& 252645135).toUInt32 >>> ((8 : Int32).toUInt32 &&& Int32.toUInt32 31)).toInt32)).toUInt32 >>> ((16 : Int32).toUInt32 &&& Int32.toUInt32 31)).toInt32)) &&& 63) = nI (popN y) by decide +kernel) y hy), rfl⟩)
set_option maxHeartbeats 1000000 in
theorem dk_ofClass {g : xe_G} {M : mi_H} {f : Nat → Int32} {n N q : Nat} {E : List (Nat × Nat)} {ac c b da vd fr mr fa ic mj na pa : Nat} {mi ru wa s1 k1 : Int32} {e0 bc0 : Nat} {K0 : KT} (h_ac : M.1 ac = some (ob 0 [.ref c, .ref b, .ref q, .ref vd, .int s1])) (h_b : M.1 b = some (ob 1 [.ref da])) (h_da : M.1 da = some (ar .byte n f)) (h_c : M.1 c = some (ob 3 [.ref b, .ref q, .int mi, .int (nI mj), .int (nI fa), .int (nI ic), .ref fr, .ref mr, .int (nI na), .int (nI pa), .int k1, .int (nI bc0), .int (nI K0.2.1), .int (nI K0.2.2.1), .int (nI K0.2.2.2.1), .int (nI K0.2.2.2.2.1), .int K0.2.2.2.2.2])) (h_vd : M.1 vd = some (ob 10 [.int ru, .int wa])) (hn : n ≤ 65540) (hmj : mj < 65536) (hfa : fa + 8 ≤ n) (hna : na < 65536 ∧ pa ≤ n) (hbc : bc0 < 65536) (hat : s_atts f n na pa = .inr e0) (hK0 : K0.1 = 0) (hV : PV g f n N E q M) : pt (mT g) 38 [.ref ac] M (fun v M' => (∃ (bc : Nat) (K : KT) (s2 : Int32), (clS f n E (by2 f fa) mj na pa 0 bc0 = .inr bc) ∧ (bc < 65536) ∧ (clU f n E mj na pa K0 = K) ∧ v = some (.int 1) ∧ M'.1 vd = some (ob 10 [.int ru, .int wa]) ∧ M'.1 ac = some (ob 0 [.ref c, .ref b, .ref q, .ref vd, .int s2]) ∧ M'.1 c = some (ob 3 [.ref b, .ref q, .int mi, .int (nI mj), .int (nI fa), .int (nI ic), .ref fr, .ref mr, .int (nI na), .int (nI pa), .int (nI K.1), .int (nI bc), .int (nI K.2.1), .int (nI K.2.2.1), .int (nI K.2.2.2.1), .int (nI K.2.2.2.2.1), .int K.2.2.2.2.2]) ∧ fm [ac, vd, c] M M') ∨ (∃ (e9 : Nat × Nat), (clS f n E (by2 f fa) mj na pa 0 bc0 = .inl e9) ∧ v = some (.int 0) ∧ M'.1 vd = some (ob 10 [.int (nI e9.1), .int (nI e9.2)]) ∧ fm [ac, vd, c] M M')) := by
  refine pt_in (b := mb_38 g) rfl (fun kf => ?_)
  show pl (mT g) kf (mb_38 g).2 (0, [(0, .ref ac)], [], M) _
  have hF : fm [ac, vd, c] M M := fm.rf
  have LL : ∀ (kf : Nat), (∀ (i p s2 bc : Nat) (K : KT) (M1 : mi_H), (M1.1 ac = some (ob 0 [.ref c, .ref b, .ref q, .ref vd, .int (nI s2)])) → (M1.1 b = some (ob 1 [.ref da])) → (M1.1 da = some (ar .byte n f)) → (M1.1 c = some (ob 3 [.ref b, .ref q, .int mi, .int (nI mj), .int (nI fa), .int (nI ic), .ref fr, .ref mr, .int (nI na), .int (nI pa), .int k1, .int (nI bc), .int (nI K.2.1), .int (nI K.2.2.1), .int (nI K.2.2.2.1), .int (nI K.2.2.2.2.1), .int K.2.2.2.2.2])) → (M1.1 vd = some (ob 10 [.int ru, .int wa])) → (PV g f n N E q M1) → (fm [ac, vd, c] M M1) → (i ≤ na) → (s2 < 2048) → (bc < 65536) → (s_atts f n (na - i) p = .inr e0) → (clS f n E (by2 f fa) mj (na - i) p s2 bc = clS f n E (by2 f fa) mj na pa 0 bc0) → (clU f n E mj (na - i) p K = clU f n E mj na pa K0) → (popN s2 = K.1) →  pl (mT g) kf (mb_38 g).2 (15, [(0, .ref ac), (1, .int (nI p)), (2, .int (nI i))], [], M1) (fun v M' => (∃ (bc : Nat) (K : KT) (s2 : Int32), (clS f n E (by2 f fa) mj na pa 0 bc0 = .inr bc) ∧ (bc < 65536) ∧ (clU f n E mj na pa K0 = K) ∧ v = some (.int 1) ∧ M'.1 vd = some (ob 10 [.int ru, .int wa]) ∧ M'.1 ac = some (ob 0 [.ref c, .ref b, .ref q, .ref vd, .int s2]) ∧ M'.1 c = some (ob 3 [.ref b, .ref q, .int mi, .int (nI mj), .int (nI fa), .int (nI ic), .ref fr, .ref mr, .int (nI na), .int (nI pa), .int (nI K.1), .int (nI bc), .int (nI K.2.1), .int (nI K.2.2.1), .int (nI K.2.2.2.1), .int (nI K.2.2.2.2.1), .int K.2.2.2.2.2]) ∧ fm [ac, vd, c] M M') ∨ (∃ (e9 : Nat × Nat), (clS f n E (by2 f fa) mj na pa 0 bc0 = .inl e9) ∧ v = some (.int 0) ∧ M'.1 vd = some (ob 10 [.int (nI e9.1), .int (nI e9.2)]) ∧ fm [ac, vd, c] M M'))) := by
    intro kf
    induction kf with
    | zero => exact (by intros; exact pl_0)
    | succ kf ih =>
      intro i p s2 bc K M1 hl_ac hl_b hl_da hl_c hl_vd hV1 hF1 hi hl hb ha hs9 hu hpc
      refine ps_st1 (S' := (16, [(0, .ref ac), (1, .int (nI p)), (2, .int (nI i))], [.int (nI i)], M1)) rfl rfl rfl ?_
      refine ps_st (S' := (17, [(0, .ref ac), (1, .int (nI p)), (2, .int (nI i))], [.ref ac, .int (nI i)], M1)) rfl rfl rfl ?_
      refine ps_get (S' := (20, [(0, .ref ac), (1, .int (nI p)), (2, .int (nI i))], [.ref c, .int (nI i)], M1)) rfl hl_ac rfl rfl ?_
      refine ps_get (S' := (23, [(0, .ref ac), (1, .int (nI p)), (2, .int (nI i))], [.int (nI na), .int (nI i)], M1)) rfl hl_c rfl rfl ?_
      refine ps_if2 (S1 := (132, [(0, .ref ac), (1, .int (nI p)), (2, .int (nI i))], [], M1)) (S2 := (26, [(0, .ref ac), (1, .int (nI p)), (2, .int (nI i))], [], M1)) rfl rfl rfl (fun c_23 => ?_) (fun c_23 => ?_)
      · have c_23 : (nI na) ≤ (nI i) := of_decide_eq_true c_23
        have n_23 : na ≤ i := (le_nI (p := na) (n := i) (by omega) (by omega)).mp c_23
        refine ps_st (S' := (133, [(0, .ref ac), (1, .int (nI p)), (2, .int (nI i))], [.ref ac], M1)) rfl rfl rfl ?_
        refine ps_get (S' := (136, [(0, .ref ac), (1, .int (nI p)), (2, .int (nI i))], [.ref c], M1)) rfl hl_ac rfl rfl ?_
        refine ps_st (S' := (137, [(0, .ref ac), (1, .int (nI p)), (2, .int (nI i))], [.ref ac, .ref c], M1)) rfl rfl rfl ?_
        refine ps_get (S' := (140, [(0, .ref ac), (1, .int (nI p)), (2, .int (nI i))], [.int (nI s2), .ref c], M1)) rfl hl_ac rfl rfl ?_
        refine pl_call (a := [.int (nI s2)]) (rest := [.ref c]) rfl rfl rfl (dk_bitCountN (y := s2) (by omega)) (fun v1 M2 q3 => ?_)
        obtain ⟨rfl, rfl⟩ := q3
        show pl _ _ _ (143, [(0, .ref ac), (1, .int (nI p)), (2, .int (nI i))], [.int (nI (popN s2)), .ref c], M1) _
        refine ps_put (l' := [.ref b, .ref q, .int mi, .int (nI mj), .int (nI fa), .int (nI ic), .ref fr, .ref mr, .int (nI na), .int (nI pa), .int (nI (popN s2)), .int (nI bc), .int (nI K.2.1), .int (nI K.2.2.1), .int (nI K.2.2.2.1), .int (nI K.2.2.2.2.1), .int K.2.2.2.2.2]) rfl hl_c rfl rfl (fun M4 h5 f6 z7 => ?_)
        have h8 := (f6 ac (ob_ne hl_ac hl_c (by decide))).trans hl_ac
        have h9 := (f6 b (ob_ne hl_b hl_c (by decide))).trans hl_b
        have h10 := (f6 da (Ne.symm (ob_ar hl_c hl_da))).trans hl_da
        have h11 := (f6 vd (ob_ne hl_vd hl_c (by decide))).trans hl_vd
        have hV12 := hV1.put hl_c (by decide) f6 z7
        have hF13 := hF1.up (by simp) f6 z7
        show pl _ _ _ (146, [(0, .ref ac), (1, .int (nI p)), (2, .int (nI i))], [], M4) _
        refine ps_st (S' := (147, [(0, .ref ac), (1, .int (nI p)), (2, .int (nI i))], [.int 1], M4)) rfl rfl rfl ?_
        exact ps_ret rfl rfl (Or.inl ⟨bc, K, _, by rw [← hs9, show na - i = 0 by omega]; rfl, hb, by rw [← hu, show na - i = 0 by omega]; rfl, rfl, h11, h8, by rw [← hpc]; exact h5, hF13⟩)
      · have c_23 : ¬ ((nI na) ≤ (nI i)) := of_decide_eq_false c_23
        have n_23 : ¬ (na ≤ i) := fun h9 => c_23 ((le_nI (p := na) (n := i) (by omega) (by omega)).mpr h9)
        obtain ⟨hq5, hq6, hq7⟩ := s_atts_in (i := i) (p := p) ha (by omega)
        refine ps_st (S' := (27, [(0, .ref ac), (1, .int (nI p)), (2, .int (nI i))], [.ref ac], M1)) rfl rfl rfl ?_
        refine ps_st (S' := (28, [(0, .ref ac), (1, .int (nI p)), (2, .int (nI i))], [.ref ac, .ref ac], M1)) rfl rfl rfl ?_
        refine ps_get (S' := (31, [(0, .ref ac), (1, .int (nI p)), (2, .int (nI i))], [.ref b, .ref ac], M1)) rfl hl_ac rfl rfl ?_
        refine ps_st (S' := (32, [(0, .ref ac), (1, .int (nI p)), (2, .int (nI i))], [.int (nI p), .ref b, .ref ac], M1)) rfl rfl rfl ?_
        refine pl_call (a := [.ref b, .int (nI p)]) (rest := [.ref ac]) rfl rfl rfl (dk_u2 (f := f) (n := n) (b := b) (da := da) (p := p) hl_b hl_da (hn) (by omega)) (fun v14 M15 q16 => ?_)
        obtain ⟨rfl, rfl⟩ := q16
        show pl _ _ _ (35, [(0, .ref ac), (1, .int (nI p)), (2, .int (nI i))], [.int (nI (by2 f p)), .ref ac], M1) _
        have hu_32 := by2_lt f p
        refine pl_call (a := [.ref ac, .int (nI (by2 f p))]) (rest := []) rfl rfl rfl (dk_classKind (f := f) (n := n) (N := N) (q := q) (E := E) (ac := ac) (c := c) (b := b) (da := da) (vd := vd) (fr := fr) (mr := mr) (fa := fa) (ic := ic) (mj := mj) (na := na) (pa := pa) (mi := mi) (ru := ru) (wa := wa) (s1 := (nI s2)) (k1 := k1) (k2 := (nI bc)) (k3 := (nI K.2.1)) (k4 := (nI K.2.2.1)) (k5 := (nI K.2.2.2.1)) (k6 := (nI K.2.2.2.2.1)) (k7 := K.2.2.2.2.2) (x := (by2 f p)) hl_ac hl_b hl_da hl_c (hn) (hmj) (by2_lt _ _) (hV1)) (fun v17 M18 q19 => ?_)
        obtain ⟨rfl, rfl⟩ := q19
        show pl _ _ _ (38, [(0, .ref ac), (1, .int (nI p)), (2, .int (nI i))], [.int (nI (ckN f n E mj (by2 f p)))], M1) _
        have hk8 := le_ck f n E mj (by2 f p)
        refine ps_st (S' := (39, [(3, .int (nI (ckN f n E mj (by2 f p)))), (0, .ref ac), (1, .int (nI p)), (2, .int (nI i))], [], M1)) rfl rfl rfl ?_
        refine ps_st (S' := (40, [(3, .int (nI (ckN f n E mj (by2 f p)))), (0, .ref ac), (1, .int (nI p)), (2, .int (nI i))], [.ref ac], M1)) rfl rfl rfl ?_
        refine ps_st (S' := (41, [(3, .int (nI (ckN f n E mj (by2 f p)))), (0, .ref ac), (1, .int (nI p)), (2, .int (nI i))], [.int (nI p), .ref ac], M1)) rfl rfl rfl ?_
        refine ps_st (S' := (42, [(3, .int (nI (ckN f n E mj (by2 f p)))), (0, .ref ac), (1, .int (nI p)), (2, .int (nI i))], [.int (nI (ckN f n E mj (by2 f p))), .int (nI p), .ref ac], M1)) rfl rfl rfl ?_
        refine pl_call (a := [.ref ac, .int (nI p), .int (nI (ckN f n E mj (by2 f p)))]) (rest := []) rfl rfl rfl (dk_isNew (f := f) (n := n) (N := N) (q := q) (E := E) (ac := ac) (c := c) (b := b) (da := da) (vd := vd) (fr := fr) (mr := mr) (fa := fa) (ic := ic) (mj := mj) (na := na) (pa := pa) (mi := mi) (ru := ru) (wa := wa) (k1 := k1) (k2 := (nI bc)) (k3 := (nI K.2.1)) (k4 := (nI K.2.2.1)) (k5 := (nI K.2.2.2.1)) (k6 := (nI K.2.2.2.2.1)) (k7 := K.2.2.2.2.2) (s := s2) (k := (ckN f n E mj (by2 f p))) (p := p) hl_ac hl_b hl_da hl_vd (hn) (by omega) (by omega) (by omega) (hV1)) (fun v20 M21 q22 => ?_)
        rcases q22 with q22 | q22
        · skip
          obtain ⟨e23, q42_s, rfl, h24, f25⟩ := q22
          have h27 := (f25.1 b (nin2 (ob_ne hl_b hl_ac (by decide)) (ob_ne hl_b hl_vd (by decide)))).trans hl_b
          have h28 := (f25.1 da (nin2 (Ne.symm (ob_ar hl_ac hl_da)) (Ne.symm (ob_ar hl_vd hl_da)))).trans hl_da
          have h29 := (f25.1 c (nin2 (ob_ne hl_c hl_ac (by decide)) (ob_ne hl_c hl_vd (by decide)))).trans hl_c
          have hF30 := hF1.tr f25 (by simp)
          have hV31 := hV1.keep f25.gm (n7c hl_ac (by decide) (n7c hl_vd (by decide) (n7nil)))
          show pl _ _ _ (45, [(3, .int (nI (ckN f n E mj (by2 f p)))), (0, .ref ac), (1, .int (nI p)), (2, .int (nI i))], [.int 0], M21) _
          refine ps_if (S1 := (50, [(3, .int (nI (ckN f n E mj (by2 f p)))), (0, .ref ac), (1, .int (nI p)), (2, .int (nI i))], [], M21)) (S2 := (48, [(3, .int (nI (ckN f n E mj (by2 f p)))), (0, .ref ac), (1, .int (nI p)), (2, .int (nI i))], [], M21)) rfl rfl rfl (fun c_45 => ?_) (fun c_45 => ?_)
          · exact absurd (of_decide_eq_true c_45) (by decide)
          refine ps_st (S' := (49, [(3, .int (nI (ckN f n E mj (by2 f p)))), (0, .ref ac), (1, .int (nI p)), (2, .int (nI i))], [.int 0], M21)) rfl rfl rfl ?_
          exact ps_ret rfl rfl (Or.inr ⟨e23, by
              rw [← hs9, clS_st (i := i) (by omega), q42_s], rfl, h24, hF30⟩)
        · skip
          obtain ⟨s'32, q42_s, q42_l, rfl, h33, h34, f35⟩ := q22
          have h37 := (f35.1 b (nin2 (ob_ne hl_b hl_ac (by decide)) (ob_ne hl_b hl_vd (by decide)))).trans hl_b
          have h38 := (f35.1 da (nin2 (Ne.symm (ob_ar hl_ac hl_da)) (Ne.symm (ob_ar hl_vd hl_da)))).trans hl_da
          have h39 := (f35.1 c (nin2 (ob_ne hl_c hl_ac (by decide)) (ob_ne hl_c hl_vd (by decide)))).trans hl_c
          have hF40 := hF1.tr f35 (by simp)
          have hV41 := hV1.keep f35.gm (n7c hl_ac (by decide) (n7c hl_vd (by decide) (n7nil)))
          show pl _ _ _ (45, [(3, .int (nI (ckN f n E mj (by2 f p)))), (0, .ref ac), (1, .int (nI p)), (2, .int (nI i))], [.int 1], M21) _
          refine ps_if (S1 := (50, [(3, .int (nI (ckN f n E mj (by2 f p)))), (0, .ref ac), (1, .int (nI p)), (2, .int (nI i))], [], M21)) (S2 := (48, [(3, .int (nI (ckN f n E mj (by2 f p)))), (0, .ref ac), (1, .int (nI p)), (2, .int (nI i))], [], M21)) rfl rfl rfl (fun c_45 => ?_) (fun c_45 => ?_)
          rotate_left
          · exact absurd (by decide) (of_decide_eq_false c_45)
          refine ps_st (S' := (51, [(3, .int (nI (ckN f n E mj (by2 f p)))), (0, .ref ac), (1, .int (nI p)), (2, .int (nI i))], [.int (nI (ckN f n E mj (by2 f p)))], M21)) rfl rfl rfl ?_
          refine ps_if (S1 := (87, [(0, .ref ac), (1, .int (nI p)), (2, .int (nI i)), (3, .int (nI (ckN f n E mj (by2 f p))))], [], M21)) (S2 := (54, [(3, .int (nI (ckN f n E mj (by2 f p)))), (0, .ref ac), (1, .int (nI p)), (2, .int (nI i))], [], M21)) rfl rfl rfl (fun c_51 => ?_) (fun c_51 => ?_)
          · have c_51 : (nI (ckN f n E mj (by2 f p))) = 0 := of_decide_eq_true c_51
            have n_51 : ckN f n E mj (by2 f p) = 0 := (eq_nI (p := ckN f n E mj (by2 f p)) (n := 0) (Nat.lt_trans (le_ck _ _ _ _ _) (by decide)) (by decide)).mp c_51
            refine ps_st (S' := (88, [(0, .ref ac), (1, .int (nI p)), (2, .int (nI i)), (3, .int (nI (ckN f n E mj (by2 f p))))], [.ref ac], M21)) rfl rfl rfl ?_
            refine ps_st (S' := (89, [(0, .ref ac), (1, .int (nI p)), (2, .int (nI i)), (3, .int (nI (ckN f n E mj (by2 f p))))], [.int (nI (ckN f n E mj (by2 f p))), .ref ac], M21)) rfl rfl rfl ?_
            refine ps_st (S' := (90, [(0, .ref ac), (1, .int (nI p)), (2, .int (nI i)), (3, .int (nI (ckN f n E mj (by2 f p))))], [.int (nI p), .int (nI (ckN f n E mj (by2 f p))), .ref ac], M21)) rfl rfl rfl ?_
            refine pl_call (a := [.ref ac, .int (nI (ckN f n E mj (by2 f p))), .int (nI p)]) (rest := []) rfl rfl rfl (dk_brokenRule2 (f := f) (n := n) (N := N) (q := q) (E := E) (ac := ac) (c := c) (b := b) (da := da) (vd := vd) (fr := fr) (mr := mr) (fa := fa) (ic := ic) (mj := mj) (na := na) (pa := pa) (mi := mi) (ru := ru) (wa := wa) (k1 := k1) (k7 := K.2.2.2.2.2) (k := (ckN f n E mj (by2 f p))) (p := p) (e := (p + 6 + by4 f (p + 2))) (s := (s'32)) (bc := bc) (bp := (K.2.1)) (i4 := (K.2.2.1)) (i5 := (K.2.2.2.1)) (i6 := (K.2.2.2.2.1)) h33 h37 h38 h39 h34 (hn) (hmj) (hfa) (by omega) (hk8) (by omega) (by omega) (fun h => absurd n_51 h) (hV41)) (fun v42 M43 q44 => ?_)
            rcases q44 with q44 | q44 | q44
            · skip
              obtain ⟨q90_s, rfl, h45, h46, f47⟩ := q44
              have h49 := (f47.1 ac (nin2 (ob_ne h33 h39 (by decide)) (ob_ne h33 h34 (by decide)))).trans h33
              have h50 := (f47.1 b (nin2 (ob_ne h37 h39 (by decide)) (ob_ne h37 h34 (by decide)))).trans h37
              have h51 := (f47.1 da (nin2 (Ne.symm (ob_ar h39 h38)) (Ne.symm (ob_ar h34 h38)))).trans h38
              have hF52 := hF40.tr f47 (by simp)
              have hV53 := hV41.keep f47.gm (n7c h39 (by decide) (n7c h34 (by decide) (n7nil)))
              show pl _ _ _ (93, [(0, .ref ac), (1, .int (nI p)), (2, .int (nI i)), (3, .int (nI (ckN f n E mj (by2 f p))))], [.int 0], M43) _
              refine ps_st (S' := (95, [(4, .int 0), (0, .ref ac), (1, .int (nI p)), (2, .int (nI i)), (3, .int (nI (ckN f n E mj (by2 f p))))], [], M43)) rfl rfl rfl ?_
              refine ps_st (S' := (97, [(4, .int 0), (0, .ref ac), (1, .int (nI p)), (2, .int (nI i)), (3, .int (nI (ckN f n E mj (by2 f p))))], [.int 0], M43)) rfl rfl rfl ?_
              refine ps_if (S1 := (120, [(4, .int 0), (0, .ref ac), (1, .int (nI p)), (2, .int (nI i)), (3, .int (nI (ckN f n E mj (by2 f p))))], [], M43)) (S2 := (100, [(4, .int 0), (0, .ref ac), (1, .int (nI p)), (2, .int (nI i)), (3, .int (nI (ckN f n E mj (by2 f p))))], [], M43)) rfl rfl rfl (fun c_97 => ?_) (fun c_97 => ?_)
              rotate_left
              · exact absurd (by decide) (of_decide_eq_false c_97)
              refine ps_st (S' := (121, [(4, .int 0), (0, .ref ac), (1, .int (nI p)), (2, .int (nI i)), (3, .int (nI (ckN f n E mj (by2 f p))))], [.ref ac], M43)) rfl rfl rfl ?_
              refine ps_st (S' := (122, [(4, .int 0), (0, .ref ac), (1, .int (nI p)), (2, .int (nI i)), (3, .int (nI (ckN f n E mj (by2 f p))))], [.int (nI p), .ref ac], M43)) rfl rfl rfl ?_
              refine pl_call (a := [.ref ac, .int (nI p)]) (rest := []) rfl rfl rfl (dk_behind (f := f) (n := n) (q := q) (ac := ac) (c := c) (b := b) (da := da) (vd := vd) (s1 := (nI s'32)) (p := p) h49 h50 h51 (hn) (by omega)) (fun v54 M55 q56 => ?_)
              obtain ⟨rfl, rfl⟩ := q56
              show pl _ _ _ (125, [(4, .int 0), (0, .ref ac), (1, .int (nI p)), (2, .int (nI i)), (3, .int (nI (ckN f n E mj (by2 f p))))], [.int (nI (p + 6 + by4 f (p + 2)))], M43) _
              refine ps_st (S' := (126, [(1, .int (nI (p + 6 + by4 f (p + 2)))), (4, .int 0), (0, .ref ac), (2, .int (nI i)), (3, .int (nI (ckN f n E mj (by2 f p))))], [], M43)) rfl rfl rfl ?_
              refine ps_st (S' := (129, [(2, .int ((nI i) + 1)), (1, .int (nI (p + 6 + by4 f (p + 2)))), (4, .int 0), (0, .ref ac), (3, .int (nI (ckN f n E mj (by2 f p))))], [], M43)) rfl rfl rfl ?_
              rw [nI_add1 (p := i) (k := 1) (x := 1) rfl (by omega)]
              show pl _ _ _ (_, [(2, .int (nI (i + 1))), (1, .int (nI (p + 6 + by4 f (p + 2)))), (4, .int 0), (0, .ref ac), (3, .int (nI (ckN f n E mj (by2 f p))))], [], M43) _
              refine ps_st (S' := (15, [(0, .ref ac), (1, .int (nI (p + 6 + by4 f (p + 2)))), (2, .int (nI (i + 1)))], [], M43)) rfl rfl rfl ?_
              exact ih (i + 1) (p + 6 + by4 f (p + 2)) ((s'32)) (if (ckN f n E mj (by2 f p)) = 6 then by2 f (p + 6) else bc) (stU f (ckN f n E mj (by2 f p)) p K) M43 h49 h50 h51 h46 h45 hV53 hF52 (by omega) (q42_l) (by
                  have := by2_lt f (p + 6)
                  split <;> omega) (hq7) (by
                  rw [← hs9, clS_st (i := i) (by omega), q42_s]
                  dsimp only
                  rw [if_neg (c := ¬ (ckN f n E mj (by2 f p)) = 0 ∧ ¬ s_fe f (ckN f n E mj (by2 f p)) (p + 6) (p + 6 + by4 f (p + 2)) = some (p + 6 + by4 f (p + 2))) (fun h => h.1 n_51)]
                  rw [q90_s]) (by
                  rw [← hu, clU_st (i := i) (by omega)]) (by
                  rw [nw_pop q42_s (by omega), hpc]
                  rfl)
            · skip
              obtain ⟨r957, q90_s, q90_l, rfl, h58, f59⟩ := q44
              have h61 := (f59.1 ac (nin2 (ob_ne h33 h39 (by decide)) (ob_ne h33 h34 (by decide)))).trans h33
              have h62 := (f59.1 b (nin2 (ob_ne h37 h39 (by decide)) (ob_ne h37 h34 (by decide)))).trans h37
              have h63 := (f59.1 da (nin2 (Ne.symm (ob_ar h39 h38)) (Ne.symm (ob_ar h34 h38)))).trans h38
              have hF64 := hF40.tr f59 (by simp)
              have hV65 := hV41.keep f59.gm (n7c h39 (by decide) (n7c h34 (by decide) (n7nil)))
              show pl _ _ _ (93, [(0, .ref ac), (1, .int (nI p)), (2, .int (nI i)), (3, .int (nI (ckN f n E mj (by2 f p))))], [.int (nI r957)], M43) _
              refine ps_st (S' := (95, [(4, .int (nI r957)), (0, .ref ac), (1, .int (nI p)), (2, .int (nI i)), (3, .int (nI (ckN f n E mj (by2 f p))))], [], M43)) rfl rfl rfl ?_
              refine ps_st (S' := (97, [(4, .int (nI r957)), (0, .ref ac), (1, .int (nI p)), (2, .int (nI i)), (3, .int (nI (ckN f n E mj (by2 f p))))], [.int (nI r957)], M43)) rfl rfl rfl ?_
              refine ps_if (S1 := (120, [(4, .int (nI r957)), (0, .ref ac), (1, .int (nI p)), (2, .int (nI i)), (3, .int (nI (ckN f n E mj (by2 f p))))], [], M43)) (S2 := (100, [(4, .int (nI r957)), (0, .ref ac), (1, .int (nI p)), (2, .int (nI i)), (3, .int (nI (ckN f n E mj (by2 f p))))], [], M43)) rfl rfl rfl (fun c_97 => ?_) (fun c_97 => ?_)
              · exact absurd (of_decide_eq_true c_97) (fun h9 => absurd ((eq_nI (p := r957) (n := 0) (by omega) (by decide)).mp h9) (by omega))
              refine ps_st (S' := (102, [(4, .int (nI r957)), (0, .ref ac), (1, .int (nI p)), (2, .int (nI i)), (3, .int (nI (ckN f n E mj (by2 f p))))], [.int (nI r957)], M43)) rfl rfl rfl ?_
              refine ps_if (S1 := (109, [(4, .int (nI r957)), (0, .ref ac), (1, .int (nI p)), (2, .int (nI i)), (3, .int (nI (ckN f n E mj (by2 f p))))], [], M43)) (S2 := (105, [(4, .int (nI r957)), (0, .ref ac), (1, .int (nI p)), (2, .int (nI i)), (3, .int (nI (ckN f n E mj (by2 f p))))], [], M43)) rfl rfl rfl (fun c_102 => ?_) (fun c_102 => ?_)
              rotate_left
              · exact absurd (Int32.not_lt.mp (nI_n0 (by omega))) (of_decide_eq_false c_102)
              refine ps_st (S' := (110, [(4, .int (nI r957)), (0, .ref ac), (1, .int (nI p)), (2, .int (nI i)), (3, .int (nI (ckN f n E mj (by2 f p))))], [.ref ac], M43)) rfl rfl rfl ?_
              refine ps_get (S' := (113, [(4, .int (nI r957)), (0, .ref ac), (1, .int (nI p)), (2, .int (nI i)), (3, .int (nI (ckN f n E mj (by2 f p))))], [.ref vd], M43)) rfl h61 rfl rfl ?_
              refine ps_st (S' := (115, [(4, .int (nI r957)), (0, .ref ac), (1, .int (nI p)), (2, .int (nI i)), (3, .int (nI (ckN f n E mj (by2 f p))))], [.int (nI r957), .ref vd], M43)) rfl rfl rfl ?_
              refine ps_st (S' := (116, [(4, .int (nI r957)), (0, .ref ac), (1, .int (nI p)), (2, .int (nI i)), (3, .int (nI (ckN f n E mj (by2 f p))))], [.int (nI p), .int (nI r957), .ref vd], M43)) rfl rfl rfl ?_
              refine pl_call (a := [.ref vd, .int (nI r957), .int (nI p)]) (rest := []) rfl rfl rfl (dk_wrong (vd := vd) (ru := ru) (wa := wa) (x1 := (nI r957)) (x2 := (nI p)) h58) (fun v66 M67 q68 => ?_)
              obtain ⟨rfl, h69, f70⟩ := q68
              have h72 := (f70.1 ac (nin1 (ob_ne h61 h58 (by decide)))).trans h61
              have h73 := (f70.1 b (nin1 (ob_ne h62 h58 (by decide)))).trans h62
              have h74 := (f70.1 da (nin1 (Ne.symm (ob_ar h58 h63)))).trans h63
              have hF75 := hF64.tr f70 (by simp)
              have hV76 := hV65.keep f70.gm (n7c h58 (by decide) (n7nil))
              show pl _ _ _ (119, [], [.int 0], M67) _
              exact ps_ret rfl rfl (Or.inr ⟨(r957, p), by
                  rw [← hs9, clS_st (i := i) (by omega), q42_s]
                  dsimp only
                  rw [if_neg (c := ¬ (ckN f n E mj (by2 f p)) = 0 ∧ ¬ s_fe f (ckN f n E mj (by2 f p)) (p + 6) (p + 6 + by4 f (p + 2)) = some (p + 6 + by4 f (p + 2))) (fun h => h.1 n_51)]
                  rw [q90_s], rfl, h69, hF75⟩)
            · skip
              obtain ⟨e977, q90_s, rfl, h78, f79⟩ := q44
              have h81 := (f79.1 ac (nin2 (ob_ne h33 h39 (by decide)) (ob_ne h33 h34 (by decide)))).trans h33
              have h82 := (f79.1 b (nin2 (ob_ne h37 h39 (by decide)) (ob_ne h37 h34 (by decide)))).trans h37
              have h83 := (f79.1 da (nin2 (Ne.symm (ob_ar h39 h38)) (Ne.symm (ob_ar h34 h38)))).trans h38
              have hF84 := hF40.tr f79 (by simp)
              have hV85 := hV41.keep f79.gm (n7c h39 (by decide) (n7c h34 (by decide) (n7nil)))
              show pl _ _ _ (93, [(0, .ref ac), (1, .int (nI p)), (2, .int (nI i)), (3, .int (nI (ckN f n E mj (by2 f p))))], [.int (-1)], M43) _
              refine ps_st (S' := (95, [(4, .int (-1)), (0, .ref ac), (1, .int (nI p)), (2, .int (nI i)), (3, .int (nI (ckN f n E mj (by2 f p))))], [], M43)) rfl rfl rfl ?_
              refine ps_st (S' := (97, [(4, .int (-1)), (0, .ref ac), (1, .int (nI p)), (2, .int (nI i)), (3, .int (nI (ckN f n E mj (by2 f p))))], [.int (-1)], M43)) rfl rfl rfl ?_
              refine ps_if (S1 := (120, [(4, .int (-1)), (0, .ref ac), (1, .int (nI p)), (2, .int (nI i)), (3, .int (nI (ckN f n E mj (by2 f p))))], [], M43)) (S2 := (100, [(4, .int (-1)), (0, .ref ac), (1, .int (nI p)), (2, .int (nI i)), (3, .int (nI (ckN f n E mj (by2 f p))))], [], M43)) rfl rfl rfl (fun c_97 => ?_) (fun c_97 => ?_)
              · exact absurd (of_decide_eq_true c_97) (by decide)
              refine ps_st (S' := (102, [(4, .int (-1)), (0, .ref ac), (1, .int (nI p)), (2, .int (nI i)), (3, .int (nI (ckN f n E mj (by2 f p))))], [.int (-1)], M43)) rfl rfl rfl ?_
              refine ps_if (S1 := (109, [(4, .int (-1)), (0, .ref ac), (1, .int (nI p)), (2, .int (nI i)), (3, .int (nI (ckN f n E mj (by2 f p))))], [], M43)) (S2 := (105, [(4, .int (-1)), (0, .ref ac), (1, .int (nI p)), (2, .int (nI i)), (3, .int (nI (ckN f n E mj (by2 f p))))], [], M43)) rfl rfl rfl (fun c_102 => ?_) (fun c_102 => ?_)
              · exact absurd (of_decide_eq_true c_102) (by decide)
              refine ps_st (S' := (106, [(4, .int (-1)), (0, .ref ac), (1, .int (nI p)), (2, .int (nI i)), (3, .int (nI (ckN f n E mj (by2 f p))))], [.int 0], M43)) rfl rfl rfl ?_
              refine ps_st (S' := (119, [], [.int 0], M43)) rfl rfl rfl ?_
              exact ps_ret rfl rfl (Or.inr ⟨e977, by
                  rw [← hs9, clS_st (i := i) (by omega), q42_s]
                  dsimp only
                  rw [if_neg (c := ¬ (ckN f n E mj (by2 f p)) = 0 ∧ ¬ s_fe f (ckN f n E mj (by2 f p)) (p + 6) (p + 6 + by4 f (p + 2)) = some (p + 6 + by4 f (p + 2))) (fun h => h.1 n_51)]
                  rw [q90_s], rfl, h78, hF84⟩)
          · have c_51 : ¬ ((nI (ckN f n E mj (by2 f p))) = 0) := of_decide_eq_false c_51
            have n_51 : ¬ (ckN f n E mj (by2 f p) = 0) := fun h9 => c_51 ((eq_nI (p := ckN f n E mj (by2 f p)) (n := 0) (Nat.lt_trans (le_ck _ _ _ _ _) (by decide)) (by decide)).mpr h9)
            refine ps_st (S' := (55, [(3, .int (nI (ckN f n E mj (by2 f p)))), (0, .ref ac), (1, .int (nI p)), (2, .int (nI i))], [.ref ac], M21)) rfl rfl rfl ?_
            refine ps_st (S' := (56, [(3, .int (nI (ckN f n E mj (by2 f p)))), (0, .ref ac), (1, .int (nI p)), (2, .int (nI i))], [.int (nI (ckN f n E mj (by2 f p))), .ref ac], M21)) rfl rfl rfl ?_
            refine ps_st (S' := (57, [(3, .int (nI (ckN f n E mj (by2 f p)))), (0, .ref ac), (1, .int (nI p)), (2, .int (nI i))], [.int (nI p), .int (nI (ckN f n E mj (by2 f p))), .ref ac], M21)) rfl rfl rfl ?_
            refine ps_st (S' := (59, [(3, .int (nI (ckN f n E mj (by2 f p)))), (0, .ref ac), (1, .int (nI p)), (2, .int (nI i))], [.int 6, .int (nI p), .int (nI (ckN f n E mj (by2 f p))), .ref ac], M21)) rfl rfl rfl ?_
            refine ps_st (S' := (60, [(3, .int (nI (ckN f n E mj (by2 f p)))), (0, .ref ac), (1, .int (nI p)), (2, .int (nI i))], [.int ((nI p) + 6), .int (nI (ckN f n E mj (by2 f p))), .ref ac], M21)) rfl rfl rfl ?_
            rw [nI_add1 (p := p) (k := 6) (x := 6) rfl (by omega)]
            show pl _ _ _ (_, [(3, .int (nI (ckN f n E mj (by2 f p)))), (0, .ref ac), (1, .int (nI p)), (2, .int (nI i))], [.int (nI (p + 6)), .int (nI (ckN f n E mj (by2 f p))), .ref ac], M21) _
            refine ps_st (S' := (61, [(3, .int (nI (ckN f n E mj (by2 f p)))), (0, .ref ac), (1, .int (nI p)), (2, .int (nI i))], [.ref ac, .int (nI (p + 6)), .int (nI (ckN f n E mj (by2 f p))), .ref ac], M21)) rfl rfl rfl ?_
            refine ps_st (S' := (62, [(3, .int (nI (ckN f n E mj (by2 f p)))), (0, .ref ac), (1, .int (nI p)), (2, .int (nI i))], [.int (nI p), .ref ac, .int (nI (p + 6)), .int (nI (ckN f n E mj (by2 f p))), .ref ac], M21)) rfl rfl rfl ?_
            refine pl_call (a := [.ref ac, .int (nI p)]) (rest := [.int (nI (p + 6)), .int (nI (ckN f n E mj (by2 f p))), .ref ac]) rfl rfl rfl (dk_behind (f := f) (n := n) (q := q) (ac := ac) (c := c) (b := b) (da := da) (vd := vd) (s1 := (nI s'32)) (p := p) h33 h37 h38 (hn) (by omega)) (fun v86 M87 q88 => ?_)
            obtain ⟨rfl, rfl⟩ := q88
            show pl _ _ _ (65, [(3, .int (nI (ckN f n E mj (by2 f p)))), (0, .ref ac), (1, .int (nI p)), (2, .int (nI i))], [.int (nI (p + 6 + by4 f (p + 2))), .int (nI (p + 6)), .int (nI (ckN f n E mj (by2 f p))), .ref ac], M21) _
            refine pl_call (a := [.ref ac, .int (nI (ckN f n E mj (by2 f p))), .int (nI (p + 6)), .int (nI (p + 6 + by4 f (p + 2)))]) (rest := []) rfl rfl rfl (dk_formEnd (f := f) (n := n) (q := q) (ac := ac) (c := c) (b := b) (da := da) (vd := vd) (s1 := (nI s'32)) (k := (ckN f n E mj (by2 f p))) (p0 := (p + 6)) (e := (p + 6 + by4 f (p + 2))) h33 h37 h38 (hn) (by omega) (by omega)) (fun v89 M90 q91 => ?_)
            rcases q91 with q91 | q91
            · skip
              obtain ⟨q65_s, rfl, rfl⟩ := q91
              show pl _ _ _ (68, [(3, .int (nI (ckN f n E mj (by2 f p)))), (0, .ref ac), (1, .int (nI p)), (2, .int (nI i))], [.int (-1)], M21) _
              refine ps_st (S' := (69, [(3, .int (nI (ckN f n E mj (by2 f p)))), (0, .ref ac), (1, .int (nI p)), (2, .int (nI i))], [.ref ac, .int (-1)], M21)) rfl rfl rfl ?_
              refine ps_st (S' := (70, [(3, .int (nI (ckN f n E mj (by2 f p)))), (0, .ref ac), (1, .int (nI p)), (2, .int (nI i))], [.int (nI p), .ref ac, .int (-1)], M21)) rfl rfl rfl ?_
              refine pl_call (a := [.ref ac, .int (nI p)]) (rest := [.int (-1)]) rfl rfl rfl (dk_behind (f := f) (n := n) (q := q) (ac := ac) (c := c) (b := b) (da := da) (vd := vd) (s1 := (nI s'32)) (p := p) h33 h37 h38 (hn) (by omega)) (fun v92 M93 q94 => ?_)
              obtain ⟨rfl, rfl⟩ := q94
              show pl _ _ _ (73, [(3, .int (nI (ckN f n E mj (by2 f p)))), (0, .ref ac), (1, .int (nI p)), (2, .int (nI i))], [.int (nI (p + 6 + by4 f (p + 2))), .int (-1)], M21) _
              refine ps_if2 (S1 := (87, [(0, .ref ac), (1, .int (nI p)), (2, .int (nI i)), (3, .int (nI (ckN f n E mj (by2 f p))))], [], M21)) (S2 := (76, [(3, .int (nI (ckN f n E mj (by2 f p)))), (0, .ref ac), (1, .int (nI p)), (2, .int (nI i))], [], M21)) rfl rfl rfl (fun c_73 => ?_) (fun c_73 => ?_)
              · exact absurd (of_decide_eq_true c_73) (m1_ne (by omega))
              have hfe : ¬ s_fe f (ckN f n E mj (by2 f p)) (p + 6) (p + 6 + by4 f (p + 2)) = some (p + 6 + by4 f (p + 2)) := by rw [q65_s]; exact fun h => by cases h
              refine ps_st (S' := (77, [(3, .int (nI (ckN f n E mj (by2 f p)))), (0, .ref ac), (1, .int (nI p)), (2, .int (nI i))], [.ref ac], M21)) rfl rfl rfl ?_
              refine ps_get (S' := (80, [(3, .int (nI (ckN f n E mj (by2 f p)))), (0, .ref ac), (1, .int (nI p)), (2, .int (nI i))], [.ref vd], M21)) rfl h33 rfl rfl ?_
              refine ps_st (S' := (82, [(3, .int (nI (ckN f n E mj (by2 f p)))), (0, .ref ac), (1, .int (nI p)), (2, .int (nI i))], [.int 30, .ref vd], M21)) rfl rfl rfl ?_
              refine ps_st (S' := (83, [(3, .int (nI (ckN f n E mj (by2 f p)))), (0, .ref ac), (1, .int (nI p)), (2, .int (nI i))], [.int (nI p), .int 30, .ref vd], M21)) rfl rfl rfl ?_
              refine pl_call (a := [.ref vd, .int 30, .int (nI p)]) (rest := []) rfl rfl rfl (dk_wrong (vd := vd) (ru := ru) (wa := wa) (x1 := 30) (x2 := (nI p)) h34) (fun v95 M96 q97 => ?_)
              obtain ⟨rfl, h98, f99⟩ := q97
              have h101 := (f99.1 ac (nin1 (ob_ne h33 h34 (by decide)))).trans h33
              have h102 := (f99.1 b (nin1 (ob_ne h37 h34 (by decide)))).trans h37
              have h103 := (f99.1 da (nin1 (Ne.symm (ob_ar h34 h38)))).trans h38
              have h104 := (f99.1 c (nin1 (ob_ne h39 h34 (by decide)))).trans h39
              have hF105 := hF40.tr f99 (by simp)
              have hV106 := hV41.keep f99.gm (n7c h34 (by decide) (n7nil))
              show pl _ _ _ (86, [(3, .int (nI (ckN f n E mj (by2 f p)))), (0, .ref ac), (1, .int (nI p)), (2, .int (nI i))], [.int 0], M96) _
              exact ps_ret rfl rfl (Or.inr ⟨(30, p), by
                  rw [← hs9, clS_st (i := i) (by omega), q42_s]
                  dsimp only
                  rw [if_pos ⟨n_51, hfe⟩], rfl, h98, hF105⟩)
            · skip
              obtain ⟨x107, q65_s, q65_l, rfl, rfl⟩ := q91
              show pl _ _ _ (68, [(3, .int (nI (ckN f n E mj (by2 f p)))), (0, .ref ac), (1, .int (nI p)), (2, .int (nI i))], [.int (nI x107)], M21) _
              refine ps_st (S' := (69, [(3, .int (nI (ckN f n E mj (by2 f p)))), (0, .ref ac), (1, .int (nI p)), (2, .int (nI i))], [.ref ac, .int (nI x107)], M21)) rfl rfl rfl ?_
              refine ps_st (S' := (70, [(3, .int (nI (ckN f n E mj (by2 f p)))), (0, .ref ac), (1, .int (nI p)), (2, .int (nI i))], [.int (nI p), .ref ac, .int (nI x107)], M21)) rfl rfl rfl ?_
              refine pl_call (a := [.ref ac, .int (nI p)]) (rest := [.int (nI x107)]) rfl rfl rfl (dk_behind (f := f) (n := n) (q := q) (ac := ac) (c := c) (b := b) (da := da) (vd := vd) (s1 := (nI s'32)) (p := p) h33 h37 h38 (hn) (by omega)) (fun v108 M109 q110 => ?_)
              obtain ⟨rfl, rfl⟩ := q110
              show pl _ _ _ (73, [(3, .int (nI (ckN f n E mj (by2 f p)))), (0, .ref ac), (1, .int (nI p)), (2, .int (nI i))], [.int (nI (p + 6 + by4 f (p + 2))), .int (nI x107)], M21) _
              refine ps_if2 (S1 := (87, [(0, .ref ac), (1, .int (nI p)), (2, .int (nI i)), (3, .int (nI (ckN f n E mj (by2 f p))))], [], M21)) (S2 := (76, [(3, .int (nI (ckN f n E mj (by2 f p)))), (0, .ref ac), (1, .int (nI p)), (2, .int (nI i))], [], M21)) rfl rfl rfl (fun c_73 => ?_) (fun c_73 => ?_)
              · have c_73 : (nI x107) = (nI (p + 6 + by4 f (p + 2))) := of_decide_eq_true c_73
                have n_73 : x107 = p + 6 + by4 f (p + 2) := (eq_nI (p := x107) (n := p + 6 + by4 f (p + 2)) (by omega) (by omega)).mp c_73
                have hfe : s_fe f (ckN f n E mj (by2 f p)) (p + 6) (p + 6 + by4 f (p + 2)) = some (p + 6 + by4 f (p + 2)) := by rw [q65_s, n_73]
                have hb8 := (s_fe_in hfe).1
                refine ps_st (S' := (88, [(0, .ref ac), (1, .int (nI p)), (2, .int (nI i)), (3, .int (nI (ckN f n E mj (by2 f p))))], [.ref ac], M21)) rfl rfl rfl ?_
                refine ps_st (S' := (89, [(0, .ref ac), (1, .int (nI p)), (2, .int (nI i)), (3, .int (nI (ckN f n E mj (by2 f p))))], [.int (nI (ckN f n E mj (by2 f p))), .ref ac], M21)) rfl rfl rfl ?_
                refine ps_st (S' := (90, [(0, .ref ac), (1, .int (nI p)), (2, .int (nI i)), (3, .int (nI (ckN f n E mj (by2 f p))))], [.int (nI p), .int (nI (ckN f n E mj (by2 f p))), .ref ac], M21)) rfl rfl rfl ?_
                refine pl_call (a := [.ref ac, .int (nI (ckN f n E mj (by2 f p))), .int (nI p)]) (rest := []) rfl rfl rfl (dk_brokenRule2 (f := f) (n := n) (N := N) (q := q) (E := E) (ac := ac) (c := c) (b := b) (da := da) (vd := vd) (fr := fr) (mr := mr) (fa := fa) (ic := ic) (mj := mj) (na := na) (pa := pa) (mi := mi) (ru := ru) (wa := wa) (k1 := k1) (k7 := K.2.2.2.2.2) (k := (ckN f n E mj (by2 f p))) (p := p) (e := (p + 6 + by4 f (p + 2))) (s := (s'32)) (bc := bc) (bp := (K.2.1)) (i4 := (K.2.2.1)) (i5 := (K.2.2.2.1)) (i6 := (K.2.2.2.2.1)) h33 h37 h38 h39 h34 (hn) (hmj) (hfa) (by omega) (hk8) (by omega) (by omega) (fun _ => hfe) (hV41)) (fun v111 M112 q113 => ?_)
                rcases q113 with q113 | q113 | q113
                · skip
                  obtain ⟨q90_s, rfl, h114, h115, f116⟩ := q113
                  have h118 := (f116.1 ac (nin2 (ob_ne h33 h39 (by decide)) (ob_ne h33 h34 (by decide)))).trans h33
                  have h119 := (f116.1 b (nin2 (ob_ne h37 h39 (by decide)) (ob_ne h37 h34 (by decide)))).trans h37
                  have h120 := (f116.1 da (nin2 (Ne.symm (ob_ar h39 h38)) (Ne.symm (ob_ar h34 h38)))).trans h38
                  have hF121 := hF40.tr f116 (by simp)
                  have hV122 := hV41.keep f116.gm (n7c h39 (by decide) (n7c h34 (by decide) (n7nil)))
                  show pl _ _ _ (93, [(0, .ref ac), (1, .int (nI p)), (2, .int (nI i)), (3, .int (nI (ckN f n E mj (by2 f p))))], [.int 0], M112) _
                  refine ps_st (S' := (95, [(4, .int 0), (0, .ref ac), (1, .int (nI p)), (2, .int (nI i)), (3, .int (nI (ckN f n E mj (by2 f p))))], [], M112)) rfl rfl rfl ?_
                  refine ps_st (S' := (97, [(4, .int 0), (0, .ref ac), (1, .int (nI p)), (2, .int (nI i)), (3, .int (nI (ckN f n E mj (by2 f p))))], [.int 0], M112)) rfl rfl rfl ?_
                  refine ps_if (S1 := (120, [(4, .int 0), (0, .ref ac), (1, .int (nI p)), (2, .int (nI i)), (3, .int (nI (ckN f n E mj (by2 f p))))], [], M112)) (S2 := (100, [(4, .int 0), (0, .ref ac), (1, .int (nI p)), (2, .int (nI i)), (3, .int (nI (ckN f n E mj (by2 f p))))], [], M112)) rfl rfl rfl (fun c_97 => ?_) (fun c_97 => ?_)
                  rotate_left
                  · exact absurd (by decide) (of_decide_eq_false c_97)
                  refine ps_st (S' := (121, [(4, .int 0), (0, .ref ac), (1, .int (nI p)), (2, .int (nI i)), (3, .int (nI (ckN f n E mj (by2 f p))))], [.ref ac], M112)) rfl rfl rfl ?_
                  refine ps_st (S' := (122, [(4, .int 0), (0, .ref ac), (1, .int (nI p)), (2, .int (nI i)), (3, .int (nI (ckN f n E mj (by2 f p))))], [.int (nI p), .ref ac], M112)) rfl rfl rfl ?_
                  refine pl_call (a := [.ref ac, .int (nI p)]) (rest := []) rfl rfl rfl (dk_behind (f := f) (n := n) (q := q) (ac := ac) (c := c) (b := b) (da := da) (vd := vd) (s1 := (nI s'32)) (p := p) h118 h119 h120 (hn) (by omega)) (fun v123 M124 q125 => ?_)
                  obtain ⟨rfl, rfl⟩ := q125
                  show pl _ _ _ (125, [(4, .int 0), (0, .ref ac), (1, .int (nI p)), (2, .int (nI i)), (3, .int (nI (ckN f n E mj (by2 f p))))], [.int (nI (p + 6 + by4 f (p + 2)))], M112) _
                  refine ps_st (S' := (126, [(1, .int (nI (p + 6 + by4 f (p + 2)))), (4, .int 0), (0, .ref ac), (2, .int (nI i)), (3, .int (nI (ckN f n E mj (by2 f p))))], [], M112)) rfl rfl rfl ?_
                  refine ps_st (S' := (129, [(2, .int ((nI i) + 1)), (1, .int (nI (p + 6 + by4 f (p + 2)))), (4, .int 0), (0, .ref ac), (3, .int (nI (ckN f n E mj (by2 f p))))], [], M112)) rfl rfl rfl ?_
                  rw [nI_add1 (p := i) (k := 1) (x := 1) rfl (by omega)]
                  show pl _ _ _ (_, [(2, .int (nI (i + 1))), (1, .int (nI (p + 6 + by4 f (p + 2)))), (4, .int 0), (0, .ref ac), (3, .int (nI (ckN f n E mj (by2 f p))))], [], M112) _
                  refine ps_st (S' := (15, [(0, .ref ac), (1, .int (nI (p + 6 + by4 f (p + 2)))), (2, .int (nI (i + 1)))], [], M112)) rfl rfl rfl ?_
                  exact ih (i + 1) (p + 6 + by4 f (p + 2)) ((s'32)) (if (ckN f n E mj (by2 f p)) = 6 then by2 f (p + 6) else bc) (stU f (ckN f n E mj (by2 f p)) p K) M112 h118 h119 h120 h115 h114 hV122 hF121 (by omega) (q42_l) (by
                      have := by2_lt f (p + 6)
                      split <;> omega) (hq7) (by
                      rw [← hs9, clS_st (i := i) (by omega), q42_s]
                      dsimp only
                      rw [if_neg (c := ¬ (ckN f n E mj (by2 f p)) = 0 ∧ ¬ s_fe f (ckN f n E mj (by2 f p)) (p + 6) (p + 6 + by4 f (p + 2)) = some (p + 6 + by4 f (p + 2))) (fun h => h.2 hfe)]
                      rw [q90_s]) (by
                      rw [← hu, clU_st (i := i) (by omega)]) (by
                      rw [nw_pop q42_s (by omega), hpc]
                      rfl)
                · skip
                  obtain ⟨r9126, q90_s, q90_l, rfl, h127, f128⟩ := q113
                  have h130 := (f128.1 ac (nin2 (ob_ne h33 h39 (by decide)) (ob_ne h33 h34 (by decide)))).trans h33
                  have h131 := (f128.1 b (nin2 (ob_ne h37 h39 (by decide)) (ob_ne h37 h34 (by decide)))).trans h37
                  have h132 := (f128.1 da (nin2 (Ne.symm (ob_ar h39 h38)) (Ne.symm (ob_ar h34 h38)))).trans h38
                  have hF133 := hF40.tr f128 (by simp)
                  have hV134 := hV41.keep f128.gm (n7c h39 (by decide) (n7c h34 (by decide) (n7nil)))
                  show pl _ _ _ (93, [(0, .ref ac), (1, .int (nI p)), (2, .int (nI i)), (3, .int (nI (ckN f n E mj (by2 f p))))], [.int (nI r9126)], M112) _
                  refine ps_st (S' := (95, [(4, .int (nI r9126)), (0, .ref ac), (1, .int (nI p)), (2, .int (nI i)), (3, .int (nI (ckN f n E mj (by2 f p))))], [], M112)) rfl rfl rfl ?_
                  refine ps_st (S' := (97, [(4, .int (nI r9126)), (0, .ref ac), (1, .int (nI p)), (2, .int (nI i)), (3, .int (nI (ckN f n E mj (by2 f p))))], [.int (nI r9126)], M112)) rfl rfl rfl ?_
                  refine ps_if (S1 := (120, [(4, .int (nI r9126)), (0, .ref ac), (1, .int (nI p)), (2, .int (nI i)), (3, .int (nI (ckN f n E mj (by2 f p))))], [], M112)) (S2 := (100, [(4, .int (nI r9126)), (0, .ref ac), (1, .int (nI p)), (2, .int (nI i)), (3, .int (nI (ckN f n E mj (by2 f p))))], [], M112)) rfl rfl rfl (fun c_97 => ?_) (fun c_97 => ?_)
                  · exact absurd (of_decide_eq_true c_97) (fun h9 => absurd ((eq_nI (p := r9126) (n := 0) (by omega) (by decide)).mp h9) (by omega))
                  refine ps_st (S' := (102, [(4, .int (nI r9126)), (0, .ref ac), (1, .int (nI p)), (2, .int (nI i)), (3, .int (nI (ckN f n E mj (by2 f p))))], [.int (nI r9126)], M112)) rfl rfl rfl ?_
                  refine ps_if (S1 := (109, [(4, .int (nI r9126)), (0, .ref ac), (1, .int (nI p)), (2, .int (nI i)), (3, .int (nI (ckN f n E mj (by2 f p))))], [], M112)) (S2 := (105, [(4, .int (nI r9126)), (0, .ref ac), (1, .int (nI p)), (2, .int (nI i)), (3, .int (nI (ckN f n E mj (by2 f p))))], [], M112)) rfl rfl rfl (fun c_102 => ?_) (fun c_102 => ?_)
                  rotate_left
                  · exact absurd (Int32.not_lt.mp (nI_n0 (by omega))) (of_decide_eq_false c_102)
                  refine ps_st (S' := (110, [(4, .int (nI r9126)), (0, .ref ac), (1, .int (nI p)), (2, .int (nI i)), (3, .int (nI (ckN f n E mj (by2 f p))))], [.ref ac], M112)) rfl rfl rfl ?_
                  refine ps_get (S' := (113, [(4, .int (nI r9126)), (0, .ref ac), (1, .int (nI p)), (2, .int (nI i)), (3, .int (nI (ckN f n E mj (by2 f p))))], [.ref vd], M112)) rfl h130 rfl rfl ?_
                  refine ps_st (S' := (115, [(4, .int (nI r9126)), (0, .ref ac), (1, .int (nI p)), (2, .int (nI i)), (3, .int (nI (ckN f n E mj (by2 f p))))], [.int (nI r9126), .ref vd], M112)) rfl rfl rfl ?_
                  refine ps_st (S' := (116, [(4, .int (nI r9126)), (0, .ref ac), (1, .int (nI p)), (2, .int (nI i)), (3, .int (nI (ckN f n E mj (by2 f p))))], [.int (nI p), .int (nI r9126), .ref vd], M112)) rfl rfl rfl ?_
                  refine pl_call (a := [.ref vd, .int (nI r9126), .int (nI p)]) (rest := []) rfl rfl rfl (dk_wrong (vd := vd) (ru := ru) (wa := wa) (x1 := (nI r9126)) (x2 := (nI p)) h127) (fun v135 M136 q137 => ?_)
                  obtain ⟨rfl, h138, f139⟩ := q137
                  have h141 := (f139.1 ac (nin1 (ob_ne h130 h127 (by decide)))).trans h130
                  have h142 := (f139.1 b (nin1 (ob_ne h131 h127 (by decide)))).trans h131
                  have h143 := (f139.1 da (nin1 (Ne.symm (ob_ar h127 h132)))).trans h132
                  have hF144 := hF133.tr f139 (by simp)
                  have hV145 := hV134.keep f139.gm (n7c h127 (by decide) (n7nil))
                  show pl _ _ _ (119, [], [.int 0], M136) _
                  exact ps_ret rfl rfl (Or.inr ⟨(r9126, p), by
                      rw [← hs9, clS_st (i := i) (by omega), q42_s]
                      dsimp only
                      rw [if_neg (c := ¬ (ckN f n E mj (by2 f p)) = 0 ∧ ¬ s_fe f (ckN f n E mj (by2 f p)) (p + 6) (p + 6 + by4 f (p + 2)) = some (p + 6 + by4 f (p + 2))) (fun h => h.2 hfe)]
                      rw [q90_s], rfl, h138, hF144⟩)
                · skip
                  obtain ⟨e9146, q90_s, rfl, h147, f148⟩ := q113
                  have h150 := (f148.1 ac (nin2 (ob_ne h33 h39 (by decide)) (ob_ne h33 h34 (by decide)))).trans h33
                  have h151 := (f148.1 b (nin2 (ob_ne h37 h39 (by decide)) (ob_ne h37 h34 (by decide)))).trans h37
                  have h152 := (f148.1 da (nin2 (Ne.symm (ob_ar h39 h38)) (Ne.symm (ob_ar h34 h38)))).trans h38
                  have hF153 := hF40.tr f148 (by simp)
                  have hV154 := hV41.keep f148.gm (n7c h39 (by decide) (n7c h34 (by decide) (n7nil)))
                  show pl _ _ _ (93, [(0, .ref ac), (1, .int (nI p)), (2, .int (nI i)), (3, .int (nI (ckN f n E mj (by2 f p))))], [.int (-1)], M112) _
                  refine ps_st (S' := (95, [(4, .int (-1)), (0, .ref ac), (1, .int (nI p)), (2, .int (nI i)), (3, .int (nI (ckN f n E mj (by2 f p))))], [], M112)) rfl rfl rfl ?_
                  refine ps_st (S' := (97, [(4, .int (-1)), (0, .ref ac), (1, .int (nI p)), (2, .int (nI i)), (3, .int (nI (ckN f n E mj (by2 f p))))], [.int (-1)], M112)) rfl rfl rfl ?_
                  refine ps_if (S1 := (120, [(4, .int (-1)), (0, .ref ac), (1, .int (nI p)), (2, .int (nI i)), (3, .int (nI (ckN f n E mj (by2 f p))))], [], M112)) (S2 := (100, [(4, .int (-1)), (0, .ref ac), (1, .int (nI p)), (2, .int (nI i)), (3, .int (nI (ckN f n E mj (by2 f p))))], [], M112)) rfl rfl rfl (fun c_97 => ?_) (fun c_97 => ?_)
                  · exact absurd (of_decide_eq_true c_97) (by decide)
                  refine ps_st (S' := (102, [(4, .int (-1)), (0, .ref ac), (1, .int (nI p)), (2, .int (nI i)), (3, .int (nI (ckN f n E mj (by2 f p))))], [.int (-1)], M112)) rfl rfl rfl ?_
                  refine ps_if (S1 := (109, [(4, .int (-1)), (0, .ref ac), (1, .int (nI p)), (2, .int (nI i)), (3, .int (nI (ckN f n E mj (by2 f p))))], [], M112)) (S2 := (105, [(4, .int (-1)), (0, .ref ac), (1, .int (nI p)), (2, .int (nI i)), (3, .int (nI (ckN f n E mj (by2 f p))))], [], M112)) rfl rfl rfl (fun c_102 => ?_) (fun c_102 => ?_)
                  · exact absurd (of_decide_eq_true c_102) (by decide)
                  refine ps_st (S' := (106, [(4, .int (-1)), (0, .ref ac), (1, .int (nI p)), (2, .int (nI i)), (3, .int (nI (ckN f n E mj (by2 f p))))], [.int 0], M112)) rfl rfl rfl ?_
                  refine ps_st (S' := (119, [], [.int 0], M112)) rfl rfl rfl ?_
                  exact ps_ret rfl rfl (Or.inr ⟨e9146, by
                      rw [← hs9, clS_st (i := i) (by omega), q42_s]
                      dsimp only
                      rw [if_neg (c := ¬ (ckN f n E mj (by2 f p)) = 0 ∧ ¬ s_fe f (ckN f n E mj (by2 f p)) (p + 6) (p + 6 + by4 f (p + 2)) = some (p + 6 + by4 f (p + 2))) (fun h => h.2 hfe)]
                      rw [q90_s], rfl, h147, hF153⟩)
              · have c_73 : ¬ ((nI x107) = (nI (p + 6 + by4 f (p + 2)))) := of_decide_eq_false c_73
                have n_73 : ¬ (x107 = p + 6 + by4 f (p + 2)) := fun h9 => c_73 ((eq_nI (p := x107) (n := p + 6 + by4 f (p + 2)) (by omega) (by omega)).mpr h9)
                have hfe : ¬ s_fe f (ckN f n E mj (by2 f p)) (p + 6) (p + 6 + by4 f (p + 2)) = some (p + 6 + by4 f (p + 2)) := by rw [q65_s]; exact fun h => n_73 (Option.some.inj h)
                refine ps_st (S' := (77, [(3, .int (nI (ckN f n E mj (by2 f p)))), (0, .ref ac), (1, .int (nI p)), (2, .int (nI i))], [.ref ac], M21)) rfl rfl rfl ?_
                refine ps_get (S' := (80, [(3, .int (nI (ckN f n E mj (by2 f p)))), (0, .ref ac), (1, .int (nI p)), (2, .int (nI i))], [.ref vd], M21)) rfl h33 rfl rfl ?_
                refine ps_st (S' := (82, [(3, .int (nI (ckN f n E mj (by2 f p)))), (0, .ref ac), (1, .int (nI p)), (2, .int (nI i))], [.int 30, .ref vd], M21)) rfl rfl rfl ?_
                refine ps_st (S' := (83, [(3, .int (nI (ckN f n E mj (by2 f p)))), (0, .ref ac), (1, .int (nI p)), (2, .int (nI i))], [.int (nI p), .int 30, .ref vd], M21)) rfl rfl rfl ?_
                refine pl_call (a := [.ref vd, .int 30, .int (nI p)]) (rest := []) rfl rfl rfl (dk_wrong (vd := vd) (ru := ru) (wa := wa) (x1 := 30) (x2 := (nI p)) h34) (fun v155 M156 q157 => ?_)
                obtain ⟨rfl, h158, f159⟩ := q157
                have h161 := (f159.1 ac (nin1 (ob_ne h33 h34 (by decide)))).trans h33
                have h162 := (f159.1 b (nin1 (ob_ne h37 h34 (by decide)))).trans h37
                have h163 := (f159.1 da (nin1 (Ne.symm (ob_ar h34 h38)))).trans h38
                have h164 := (f159.1 c (nin1 (ob_ne h39 h34 (by decide)))).trans h39
                have hF165 := hF40.tr f159 (by simp)
                have hV166 := hV41.keep f159.gm (n7c h34 (by decide) (n7nil))
                show pl _ _ _ (86, [(3, .int (nI (ckN f n E mj (by2 f p)))), (0, .ref ac), (1, .int (nI p)), (2, .int (nI i))], [.int 0], M156) _
                exact ps_ret rfl rfl (Or.inr ⟨(30, p), by
                    rw [← hs9, clS_st (i := i) (by omega), q42_s]
                    dsimp only
                    rw [if_pos ⟨n_51, hfe⟩], rfl, h158, hF165⟩)
  refine ps_st (S' := (1, [(0, .ref ac)], [.ref ac], M)) rfl rfl rfl ?_
  refine ps_st (S' := (2, [(0, .ref ac)], [.int 0, .ref ac], M)) rfl rfl rfl ?_
  refine ps_put (l' := [.ref c, .ref b, .ref q, .ref vd, .int 0]) rfl h_ac rfl rfl (fun M167 h168 f169 z170 => ?_)
  have h171 := (f169 b (ob_ne h_b h_ac (by decide))).trans h_b
  have h172 := (f169 da (Ne.symm (ob_ar h_ac h_da))).trans h_da
  have h173 := (f169 c (ob_ne h_c h_ac (by decide))).trans h_c
  have h174 := (f169 vd (ob_ne h_vd h_ac (by decide))).trans h_vd
  have hV175 := hV.put h_ac (by decide) f169 z170
  have hF176 := hF.up (by simp) f169 z170
  show pl _ _ _ (5, [(0, .ref ac)], [], M167) _
  refine ps_st (S' := (6, [(0, .ref ac)], [.ref ac], M167)) rfl rfl rfl ?_
  refine ps_get (S' := (9, [(0, .ref ac)], [.ref c], M167)) rfl h168 rfl rfl ?_
  refine ps_get (S' := (12, [(0, .ref ac)], [.int (nI pa)], M167)) rfl h173 rfl rfl ?_
  refine ps_st (S' := (13, [(1, .int (nI pa)), (0, .ref ac)], [], M167)) rfl rfl rfl ?_
  refine ps_st (S' := (14, [(1, .int (nI pa)), (0, .ref ac)], [.int 0], M167)) rfl rfl rfl ?_
  refine ps_st (S' := (15, [(0, .ref ac), (1, .int (nI pa)), (2, .int 0)], [], M167)) rfl rfl rfl ?_
  exact (LL kf) (0) (pa) (0) (bc0) (K0) M167 h168 h171 h172 h173 h174 hV175 hF176 (by omega) (by decide) (hbc) (hat) (rfl) (rfl) (by rw [hK0]; rfl)
