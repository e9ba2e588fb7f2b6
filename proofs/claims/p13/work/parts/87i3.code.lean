section
/-! the Code attribute (laid by wip/p4/d13.py) -/

theorem s_atE_in {f : Nat → Int32} {e c i p x : Nat} (h : s_atE f e (c - i) p = some x) (hi : i < c) : p + 6 ≤ e ∧ p + 6 + by4 f (p + 2) ≤ e ∧ s_atE f e (c - (i + 1)) (p + 6 + by4 f (p + 2)) = some x := by
  rw [s_atE_st hi] at h
  split at h
  · cases h
  · split at h
    · cases h
    · exact ⟨by omega, by omega, h⟩
theorem s_cdE_in {f : Nat → Int32} {e p x : Nat} (h : s_cdE f e p = some x) : p + 8 + by4 f (p + 4) + 2 + 8 * by2 f (p + 8 + by4 f (p + 4)) + 2 ≤ e ∧ True ∧ s_atE f e (by2 f (p + 8 + by4 f (p + 4) + 2 + 8 * by2 f (p + 8 + by4 f (p + 4)))) (p + 8 + by4 f (p + 4) + 2 + 8 * by2 f (p + 8 + by4 f (p + 4)) + 2) = some x := by
  unfold s_cdE at h
  split at h
  · cases h
  · split at h
    · cases h
    · split at h
      · cases h
      · exact ⟨by omega, trivial, h⟩
theorem s_rcE_in {f : Nat → Int32} {e c i p x : Nat} (h : s_rcE f e (c - i) p = some x) (hi : i < c) : p + 6 ≤ e ∧ ∃ y, s_atE f e (by2 f (p + 4)) (p + 6) = some y ∧ s_rcE f e (c - (i + 1)) y = some x := by
  rw [s_rcE_st hi] at h
  split at h
  · cases h
  · split at h
    · cases h
    · rename_i y hy
      exact ⟨by omega, y, hy, h⟩
theorem s_fe_in {f : Nat → Int32} {k p e : Nat} (h : s_fe f k p e = some e) : p + 2 ≤ e ∧ (k = 7 → p + 2 = e) ∧ (k = 3 ∨ k = 8 ∨ k = 10 → p + 2 + 2 * by2 f p = e) ∧ (k = 5 → p + 2 + 8 * by2 f p = e) ∧ (k = 6 → s_bsE f e (by2 f p) (p + 2) = some e) ∧ (k = 9 → s_rcE f e (by2 f p) (p + 2) = some e) ∧ (k = 2 → s_cdE f e p = some e) := by
  unfold s_fe at h
  split at h
  · cases h
  · refine ⟨by omega, fun hk => ?_, fun hk => ?_, fun hk => ?_, fun hk => ?_, fun hk => ?_, fun hk => ?_⟩
    · rw [if_pos (by omega)] at h
      exact Option.some.inj h
    · rw [if_neg (by omega), if_pos (by omega)] at h
      exact Option.some.inj h
    · rw [if_neg (by omega), if_neg (by omega), if_pos (by omega)] at h
      exact Option.some.inj h
    · rw [if_neg (by omega), if_neg (by omega), if_neg (by omega), if_pos (by omega)] at h
      exact h
    · rw [if_neg (by omega), if_neg (by omega), if_neg (by omega), if_neg (by omega), if_pos (by omega)] at h
      exact h
    · rw [if_neg (by omega), if_neg (by omega), if_neg (by omega), if_neg (by omega), if_neg (by omega)] at h
      exact h
theorem s_atts_in {f : Nat → Int32} {n c i p x : Nat} (h : s_atts f n (c - i) p = .inr x) (hi : i < c) : p + 6 ≤ n ∧ p + 6 + by4 f (p + 2) ≤ n ∧ s_atts f n (c - (i + 1)) (p + 6 + by4 f (p + 2)) = .inr x := by
  rw [show c - i = (c - (i + 1)) + 1 by omega] at h
  unfold s_atts at h
  split at h
  · cases h
  · split at h
    · cases h
    · split at h
      · cases h
      · exact ⟨by omega, by omega, h⟩
section ATC
variable {f : Nat → Int32} {n : Nat} {E : List (Nat × Nat)}
theorem faS_st {x c i p s : Nat} {d : List Nat} (h : i < c) : faS f n E x d (c - i) p s = match nwS f E s (fkN f n E (by2 f p)) p with
    | .inl e => some e
    | .inr s' => if ¬ fkN f n E (by2 f p) = 0 ∧ ¬ s_fe f 1 (p + 6) (p + 6 + by4 f (p + 2)) = some (p + 6 + by4 f (p + 2)) then some (30, p) else
      if ¬ fkN f n E (by2 f p) = 0 ∧ ¬ hasN x 8 = 0 ∧ ¬ ctS d = some (tg f E (by2 f (p + 6))) then some (31, p) else faS f n E x d (c - (i + 1)) (p + 6 + by4 f (p + 2)) s' := by
  rw [show c - i = (c - (i + 1)) + 1 by omega]
  rfl
theorem maS_st {mj w c i p s h : Nat} (hi : i < c) : maS f n E mj w (c - i) p s h = match nwS f E s (mkN f n E (by2 f p)) p with
    | .inl e => .inl e
    | .inr s' => if ¬ mkN f n E (by2 f p) = 0 ∧ ¬ s_fe f (mkN f n E (by2 f p)) (p + 6) (p + 6 + by4 f (p + 2)) = some (p + 6 + by4 f (p + 2)) then .inl (30, p) else
      if mkN f n E (by2 f p) = 2 then (match cdS f n E mj w p s' with
        | .inl e => .inl e
        | .inr s2 => maS f n E mj w (c - (i + 1)) (p + 6 + by4 f (p + 2)) s2 1) else
      if mkN f n E (by2 f p) = 3 ∧ clA f E (p + 8) (by2 f (p + 6)) 0 = 0 then .inl (32, p) else maS f n E mj w (c - (i + 1)) (p + 6 + by4 f (p + 2)) s' h := by
  rw [show c - i = (c - (i + 1)) + 1 by omega]
  rfl
theorem clS_st {x mj c i p s bc : Nat} (hi : i < c) : clS f n E x mj (c - i) p s bc = match nwS f E s (ckN f n E mj (by2 f p)) p with
    | .inl e => .inl e
    | .inr s' => if ¬ ckN f n E mj (by2 f p) = 0 ∧ ¬ s_fe f (ckN f n E mj (by2 f p)) (p + 6) (p + 6 + by4 f (p + 2)) = some (p + 6 + by4 f (p + 2)) then .inl (30, p) else
      match brS f n E x (ckN f n E mj (by2 f p)) p s' with
      | some (.inl r9) => .inl (r9, p)
      | some (.inr e) => .inl e
      | none => clS f n E x mj (c - (i + 1)) (p + 6 + by4 f (p + 2)) s' (if ckN f n E mj (by2 f p) = 6 then by2 f (p + 6) else bc) := by
  rw [show c - i = (c - (i + 1)) + 1 by omega]
  rfl
end ATC
set_option maxHeartbeats 1000000 in
theorem dk_isNew0 {g : xe_G} {M : mi_H} {f : Nat → Int32} {n N q : Nat} {E : List (Nat × Nat)} {ac c b da vd fr mr fa ic mj na pa : Nat} {mi ru wa s1 k1 k2 k3 k4 k5 k6 k7 : Int32} {p : Nat} (h_ac : M.1 ac = some (ob 0 [.ref c, .ref b, .ref q, .ref vd, .int s1])) (h_b : M.1 b = some (ob 1 [.ref da])) (h_da : M.1 da = some (ar .byte n f)) (h_vd : M.1 vd = some (ob 10 [.int ru, .int wa])) (hn : n ≤ 65540) (hin : p + 2 ≤ n) (hV : PV g f n N E q M) : pt (mT g) 36 [.ref ac, .int (nI p), .int 0] M (fun v M' => ((¬ tg f E (by2 f p) = 1) ∧ v = some (.int 0) ∧ M'.1 vd = some (ob 10 [.int 28, .int (nI p)]) ∧ fm [vd] M M') ∨ ((tg f E (by2 f p) = 1) ∧ v = some (.int 1) ∧ M'.1 vd = some (ob 10 [.int ru, .int wa]) ∧ fm [vd] M M')) := by
  refine pt_in (b := mb_36 g) rfl (fun kf => ?_)
  show pl (mT g) kf (mb_36 g).2 (0, [(0, .ref ac), (1, .int (nI p)), (2, .int 0)], [], M) _
  have hF : fm [vd] M M := fm.rf
  refine ps_st (S' := (1, [(0, .ref ac), (1, .int (nI p)), (2, .int 0)], [.ref ac], M)) rfl rfl rfl ?_
  refine ps_get (S' := (4, [(0, .ref ac), (1, .int (nI p)), (2, .int 0)], [.ref q], M)) rfl h_ac rfl rfl ?_
  refine ps_st (S' := (5, [(0, .ref ac), (1, .int (nI p)), (2, .int 0)], [.ref ac, .ref q], M)) rfl rfl rfl ?_
  refine ps_get (S' := (8, [(0, .ref ac), (1, .int (nI p)), (2, .int 0)], [.ref b, .ref q], M)) rfl h_ac rfl rfl ?_
  refine ps_st (S' := (9, [(0, .ref ac), (1, .int (nI p)), (2, .int 0)], [.int (nI p), .ref b, .ref q], M)) rfl rfl rfl ?_
  refine pl_call (a := [.ref b, .int (nI p)]) (rest := [.ref q]) rfl rfl rfl (dk_u2 (f := f) (n := n) (b := b) (da := da) (p := p) h_b h_da (hn) (by omega)) (fun v1 M2 q3 => ?_)
  obtain ⟨rfl, rfl⟩ := q3
  show pl _ _ _ (12, [(0, .ref ac), (1, .int (nI p)), (2, .int 0)], [.int (nI (by2 f p)), .ref q], M) _
  have hu_9 := by2_lt f p
  refine pl_call (a := [.ref q, .int (nI (by2 f p))]) (rest := []) rfl rfl rfl (dy_tagOf (f := f) (n := n) (N := N) (q := q) (E := E) (j := (by2 f p)) (hV) (by2_lt _ _)) (fun v4 M5 q6 => ?_)
  obtain ⟨rfl, rfl⟩ := q6
  show pl _ _ _ (15, [(0, .ref ac), (1, .int (nI p)), (2, .int 0)], [.int (nI (tg f E (by2 f p)))], M) _
  refine ps_st (S' := (16, [(0, .ref ac), (1, .int (nI p)), (2, .int 0)], [.int 1, .int (nI (tg f E (by2 f p)))], M)) rfl rfl rfl ?_
  refine ps_if2 (S1 := (30, [(0, .ref ac), (1, .int (nI p)), (2, .int 0)], [], M)) (S2 := (19, [(0, .ref ac), (1, .int (nI p)), (2, .int 0)], [], M)) rfl rfl rfl (fun c_16 => ?_) (fun c_16 => ?_)
  · have c_16 : (nI (tg f E (by2 f p))) = 1 := of_decide_eq_true c_16
    have n_16 : tg f E (by2 f p) = 1 := (eq_nI (p := tg f E (by2 f p)) (n := 1) (Nat.lt_trans (tg_lt _ _ _) (by decide)) (by decide)).mp c_16
    refine ps_st (S' := (31, [(0, .ref ac), (1, .int (nI p)), (2, .int 0)], [.int 0], M)) rfl rfl rfl ?_
    refine ps_if (S1 := (36, [(0, .ref ac), (1, .int (nI p)), (2, .int 0)], [], M)) (S2 := (34, [(0, .ref ac), (1, .int (nI p)), (2, .int 0)], [], M)) rfl rfl rfl (fun c_31 => ?_) (fun c_31 => ?_)
    · exact absurd (of_decide_eq_true c_31) (by decide)
    refine ps_st (S' := (35, [(0, .ref ac), (1, .int (nI p)), (2, .int 0)], [.int 1], M)) rfl rfl rfl ?_
    exact ps_ret rfl rfl (Or.inr ⟨by omega, rfl, h_vd, hF⟩)
  · have c_16 : ¬ ((nI (tg f E (by2 f p))) = 1) := of_decide_eq_false c_16
    have n_16 : ¬ (tg f E (by2 f p) = 1) := fun h9 => c_16 ((eq_nI (p := tg f E (by2 f p)) (n := 1) (Nat.lt_trans (tg_lt _ _ _) (by decide)) (by decide)).mpr h9)
    refine ps_st (S' := (20, [(0, .ref ac), (1, .int (nI p)), (2, .int 0)], [.ref ac], M)) rfl rfl rfl ?_
    refine ps_get (S' := (23, [(0, .ref ac), (1, .int (nI p)), (2, .int 0)], [.ref vd], M)) rfl h_ac rfl rfl ?_
    refine ps_st (S' := (25, [(0, .ref ac), (1, .int (nI p)), (2, .int 0)], [.int 28, .ref vd], M)) rfl rfl rfl ?_
    refine ps_st (S' := (26, [(0, .ref ac), (1, .int (nI p)), (2, .int 0)], [.int (nI p), .int 28, .ref vd], M)) rfl rfl rfl ?_
    refine pl_call (a := [.ref vd, .int 28, .int (nI p)]) (rest := []) rfl rfl rfl (dk_wrong (vd := vd) (ru := ru) (wa := wa) (x1 := 28) (x2 := (nI p)) h_vd) (fun v7 M8 q9 => ?_)
    obtain ⟨rfl, h10, f11⟩ := q9
    have h13 := (f11.1 ac (nin1 (ob_ne h_ac h_vd (by decide)))).trans h_ac
    have h14 := (f11.1 b (nin1 (ob_ne h_b h_vd (by decide)))).trans h_b
    have h15 := (f11.1 da (nin1 (Ne.symm (ob_ar h_vd h_da)))).trans h_da
    have hF16 := hF.tr f11 (by simp)
    have hV17 := hV.keep f11.gm (n7c h_vd (by decide) (n7nil))
    show pl _ _ _ (29, [(0, .ref ac), (1, .int (nI p)), (2, .int 0)], [.int 0], M8) _
    exact ps_ret rfl rfl (Or.inl ⟨by omega, rfl, h10, hF16⟩)
set_option maxHeartbeats 1000000 in
theorem dk_bitCountA {g : xe_G} {M : mi_H} {y : Int32}   : pt (mT g) 258 [.int y] M (fun v M' => (∃ (x : Int32), v = some (.int x) ∧ M = M')) := by
  refine pt_in (b := mb_258 g) rfl (fun kf => ?_)
  show pl (mT g) kf (mb_258 g).2 (0, [(0, .int y)], [], M) _
  refine ps_st (S' := (1, [(0, .int y)], [.int y], M)) rfl rfl rfl ?_
  refine ps_st (S' := (2, [(0, .int y)], [.int y, .int y], M)) rfl rfl rfl ?_
  refine ps_st (S' := (3, [(0, .int y)], [.int 1, .int y, .int y], M)) rfl rfl rfl ?_
  refine ps_st (S' := (4, [(0, .int y)], [.int ((y.toUInt32 >>> ((1 : Int32).toUInt32 &&& Int32.toUInt32 31)).toInt32), .int y], M)) rfl rfl rfl ?_
  refine ps_st (S' := (7, [(0, .int y)], [.int 1431655765, .int ((y.toUInt32 >>> ((1 : Int32).toUInt32 &&& Int32.toUInt32 31)).toInt32), .int y], M)) rfl rfl rfl ?_
  refine ps_st (S' := (8, [(0, .int y)], [.int (((y.toUInt32 >>> ((1 : Int32).toUInt32 &&& Int32.toUInt32 31)).toInt32) &&& 1431655765), .int y], M)) rfl rfl rfl ?_
  refine ps_st (S' := (9, [(0, .int y)], [.int (y - (((y.toUInt32 >>> ((1 : Int32).toUInt32 &&& Int32.toUInt32 31)).toInt32) &&& 1431655765))], M)) rfl rfl rfl ?_
  refine ps_st (S' := (10, [(0, .int (y - (((y.toUInt32 >>> ((1 : Int32).toUInt32 &&& Int32.toUInt32 31)).toInt32) &&& 1431655765)))], [], M)) rfl rfl rfl ?_
  refine ps_st (S' := (11, [(0, .int (y - (((y.toUInt32 >>> ((1 : Int32).toUInt32 &&& Int32.toUInt32 31)).toInt32) &&& 1431655765)))], [.int (y - (((y.toUInt32 >>> ((1 : Int32).toUInt32 &&& Int32.toUInt32 31)).toInt32) &&& 1431655765))], M)) rfl rfl rfl ?_
  refine ps_st (S' := (14, [(0, .int (y - (((y.toUInt32 >>> ((1 : Int32).toUInt32 &&& Int32.toUInt32 31)).toInt32) &&& 1431655765)))], [.int 858993459, .int (y - (((y.toUInt32 >>> ((1 : Int32).toUInt32 &&& Int32.toUInt32 31)).toInt32) &&& 1431655765))], M)) rfl rfl rfl ?_
  refine ps_st (S' := (15, [(0, .int (y - (((y.toUInt32 >>> ((1 : Int32).toUInt32 &&& Int32.toUInt32 31)).toInt32) &&& 1431655765)))], [.int ((y - (((y.toUInt32 >>> ((1 : Int32).toUInt32 &&& Int32.toUInt32 31)).toInt32) &&& 1431655765)) &&& 858993459)], M)) rfl rfl rfl ?_
  refine ps_st (S' := (16, [(0, .int (y - (((y.toUInt32 >>> ((1 : Int32).toUInt32 &&& Int32.toUInt32 31)).toInt32) &&& 1431655765)))], [.int (y - (((y.toUInt32 >>> ((1 : Int32).toUInt32 &&& Int32.toUInt32 31)).toInt32) &&& 1431655765)), .int ((y - (((y.toUInt32 >>> ((1 : Int32).toUInt32 &&& Int32.toUInt32 31)).toInt32) &&& 1431655765)) &&& 858993459)], M)) rfl rfl rfl ?_
  refine ps_st (S' := (17, [(0, .int (y - (((y.toUInt32 >>> ((1 : Int32).toUInt32 &&& Int32.toUInt32 31)).toInt32) &&& 1431655765)))], [.int 2, .int (y - (((y.toUInt32 >>> ((1 : Int32).toUInt32 &&& Int32.toUInt32 31)).toInt32) &&& 1431655765)), .int ((y - (((y.toUInt32 >>> ((1 : Int32).toUInt32 &&& Int32.toUInt32 31)).toInt32) &&& 1431655765)) &&& 858993459)], M)) rfl rfl rfl ?_
  refine ps_st (S' := (18, [(0, .int (y - (((y.toUInt32 >>> ((1 : Int32).toUInt32 &&& Int32.toUInt32 31)).toInt32) &&& 1431655765)))], [.int (((y - (((y.toUInt32 >>> ((1 : Int32).toUInt32 &&& Int32.toUInt32 31)).toInt32) &&& 1431655765)).toUInt32 >>> ((2 : Int32).toUInt32 &&& Int32.toUInt32 31)).toInt32), .int ((y - (((y.toUInt32 >>> ((1 : Int32).toUInt32 &&& Int32.toUInt32 31)).toInt32) &&& 1431655765)) &&& 858993459)], M)) rfl rfl rfl ?_
  refine ps_st (S' := (21, [(0, .int (y - (((y.toUInt32 >>> ((1 : Int32).toUInt32 &&& Int32.toUInt32 31)).toInt32) &&& 1431655765)))], [.int 858993459, .int (((y - (((y.toUInt32 >>> ((1 : Int32).toUInt32 &&& Int32.toUInt32 31)).toInt32) &&& 1431655765)).toUInt32 >>> ((2 : Int32).toUInt32 &&& Int32.toUInt32 31)).toInt32), .int ((y - (((y.toUInt32 >>> ((1 : Int32).toUInt32 &&& Int32.toUInt32 31)).toInt32) &&& 1431655765)) &&& 858993459)], M)) rfl rfl rfl ?_
  refine ps_st (S' := (22, [(0, .int (y - (((y.toUInt32 >>> ((1 : Int32).toUInt32 &&& Int32.toUInt32 31)).toInt32) &&& 1431655765)))], [.int ((((y - (((y.toUInt32 >>> ((1 : Int32).toUInt32 &&& Int32.toUInt32 31)).toInt32) &&& 1431655765)).toUInt32 >>> ((2 : Int32).toUInt32 &&& Int32.toUInt32 31)).toInt32) &&& 858993459), .int ((y - (((y.toUInt32 >>> ((1 : Int32).toUInt32 &&& Int32.toUInt32 31)).toInt32) &&& 1431655765)) &&& 858993459)], M)) rfl rfl rfl ?_
  refine ps_st (S' := (23, [(0, .int (y - (((y.toUInt32 >>> ((1 : Int32).toUInt32 &&& Int32.toUInt32 31)).toInt32) &&& 1431655765)))], [.int (((y - (((y.toUInt32 >>> ((1 : Int32).toUInt32 &&& Int32.toUInt32 31)).toInt32) &&& 1431655765)) &&& 858993459) + ((((y - (((y.toUInt32 >>> ((1 : Int32).toUInt32 &&& Int32.toUInt32 31)).toInt32) &&& 1431655765)).toUInt32 >>> ((2 : Int32).toUInt32 &&& Int32.toUInt32 31)).toInt32) &&& 858993459))], M)) rfl rfl rfl ?_
  refine ps_st (S' := (24, [(0, .int (((y - (((y.toUInt32 >>> ((1 : Int32).toUInt32 &&& Int32.toUInt32 31)).toInt32) &&& 1431655765)) &&& 858993459) + ((((y - (((y.toUInt32 >>> ((1 : Int32).toUInt32 &&& Int32.toUInt32 31)).toInt32) &&& 1431655765)).toUInt32 >>> ((2 : Int32).toUInt32 &&& Int32.toUInt32 31)).toInt32) &&& 858993459)))], [], M)) rfl rfl rfl ?_
  refine ps_st (S' := (25, [(0, .int (((y - (((y.toUInt32 >>> ((1 : Int32).toUInt32 &&& Int32.toUInt32 31)).toInt32) &&& 1431655765)) &&& 858993459) + ((((y - (((y.toUInt32 >>> ((1 : Int32).toUInt32 &&& Int32.toUInt32 31)).toInt32) &&& 1431655765)).toUInt32 >>> ((2 : Int32).toUInt32 &&& Int32.toUInt32 31)).toInt32) &&& 858993459)))], [.int (((y - (((y.toUInt32 >>> ((1 : Int32).toUInt32 &&& Int32.toUInt32 31)).toInt32) &&& 1431655765)) &&& 858993459) + ((((y - (((y.toUInt32 >>> ((1 : Int32).toUInt32 &&& Int32.toUInt32 31)).toInt32) &&& 1431655765)).toUInt32 >>> ((2 : Int32).toUInt32 &&& Int32.toUInt32 31)).toInt32) &&& 858993459))], M)) rfl rfl rfl ?_
  refine ps_st (S' := (26, [(0, .int (((y - (((y.toUInt32 >>> ((1 : Int32).toUInt32 &&& Int32.toUInt32 31)).toInt32) &&& 1431655765)) &&& 858993459) + ((((y - (((y.toUInt32 >>> ((1 : Int32).toUInt32 &&& Int32.toUInt32 31)).toInt32) &&& 1431655765)).toUInt32 >>> ((2 : Int32).toUInt32 &&& Int32.toUInt32 31)).toInt32) &&& 858993459)))], [.int (((y - (((y.toUInt32 >>> ((1 : Int32).toUInt32 &&& Int32.toUInt32 31)).toInt32) &&& 1431655765)) &&& 858993459) + ((((y - (((y.toUInt32 >>> ((1 : Int32).toUInt32 &&& Int32.toUInt32 31)).toInt32) &&& 1431655765)).toUInt32 >>> ((2 : Int32).toUInt32 &&& Int32.toUInt32 31)).toInt32) &&& 858993459)), .int (((y - (((y.toUInt32 >>> ((1 : Int32).toUInt32 &&& Int32.toUInt32 31)).toInt32) &&& 1431655765)) &&& 858993459) + ((((y - (((y.toUInt32 >>> ((1 : Int32).toUInt32 &&& Int32.toUInt32 31)).toInt32) &&& 1431655765)).toUInt32 >>> ((2 : Int32).toUInt32 &&& Int32.toUInt32 31)).toInt32) &&& 858993459))], M)) rfl rfl rfl ?_
  refine ps_st (S' := (27, [(0, .int (((y - (((y.toUInt32 >>> ((1 : Int32).toUInt32 &&& Int32.toUInt32 31)).toInt32) &&& 1431655765)) &&& 858993459) + ((((y - (((y.toUInt32 >>> ((1 : Int32).toUInt32 &&& Int32.toUInt32 31)).toInt32) &&& 1431655765)).toUInt32 >>> ((2 : Int32).toUInt32 &&& Int32.toUInt32 31)).toInt32) &&& 858993459)))], [.int 4, .int (((y - (((y.toUInt32 >>> ((1 : Int32).toUInt32 &&& Int32.toUInt32 31)).toInt32) &&& 1431655765)) &&& 858993459) + ((((y - (((y.toUInt32 >>> ((1 : Int32).toUInt32 &&& Int32.toUInt32 31)).toInt32) &&& 1431655765)).toUInt32 >>> ((2 : Int32).toUInt32 &&& Int32.toUInt32 31)).toInt32) &&& 858993459)), .int (((y - (((y.toUInt32 >>> ((1 : Int32).toUInt32 &&& Int32.toUInt32 31)).toInt32) &&& 1431655765)) &&& 858993459) + ((((y - (((y.toUInt32 >>> ((1 : Int32).toUInt32 &&& Int32.toUInt32 31)).toInt32) &&& 1431655765)).toUInt32 >>> ((2 : Int32).toUInt32 &&& Int32.toUInt32 31)).toInt32) &&& 858993459))], M)) rfl rfl rfl ?_
  refine ps_st (S' := (28, [(0, .int (((y - (((y.toUInt32 >>> ((1 : Int32).toUInt32 &&& Int32.toUInt32 31)).toInt32) &&& 1431655765)) &&& 858993459) + ((((y - (((y.toUInt32 >>> ((1 : Int32).toUInt32 &&& Int32.toUInt32 31)).toInt32) &&& 1431655765)).toUInt32 >>> ((2 : Int32).toUInt32 &&& Int32.toUInt32 31)).toInt32) &&& 858993459)))], [.int (((((y - (((y.toUInt32 >>> ((1 : Int32).toUInt32 &&& Int32.toUInt32 31)).toInt32) &&& 1431655765)) &&& 858993459) + ((((y - (((y.toUInt32 >>> ((1 : Int32).toUInt32 &&& Int32.toUInt32 31)).toInt32) &&& 1431655765)).toUInt32 >>> ((2 : Int32).toUInt32 &&& Int32.toUInt32 31)).toInt32) &&& 858993459)).toUInt32 >>> ((4 : Int32).toUInt32 &&& Int32.toUInt32 31)).toInt32), .int (((y - (((y.toUInt32 >>> ((1 : Int32).toUInt32 &&& Int32.toUInt32 31)).toInt32) &&& 1431655765)) &&& 858993459) + ((((y - (((y.toUInt32 >>> ((1 : Int32).toUInt32 &&& Int32.toUInt32 31)).toInt32) &&& 1431655765)).toUInt32 >>> ((2 : Int32).toUInt32 &&& Int32.toUInt32 31)).toInt32) &&& 858993459))], M)) rfl rfl rfl ?_
  refine ps_st (S' := (29, [(0, .int (((y - (((y.toUInt32 >>> ((1 : Int32).toUInt32 &&& Int32.toUInt32 31)).toInt32) &&& 1431655765)) &&& 858993459) + ((((y - (((y.toUInt32 >>> ((1 : Int32).toUInt32 &&& Int32.toUInt32 31)).toInt32) &&& 1431655765)).toUInt32 >>> ((2 : Int32).toUInt32 &&& Int32.toUInt32 31)).toInt32) &&& 858993459)))], [.int ((((y - (((y.toUInt32 >>> ((1 : Int32).toUInt32 &&& Int32.toUInt32 31)).toInt32) &&& 1431655765)) &&& 858993459) + ((((y - (((y.toUInt32 >>> ((1 : Int32).toUInt32 &&& Int32.toUInt32 31)).toInt32) &&& 1431655765)).toUInt32 >>> ((2 : Int32).toUInt32 &&& Int32.toUInt32 31)).toInt32) &&& 858993459)) + (((((y - (((y.toUInt32 >>> ((1 : Int32).toUInt32 &&& Int32.toUInt32 31)).toInt32) &&& 1431655765)) &&& 858993459) + ((((y - (((y.toUInt32 >>> ((1 : Int32).toUInt32 &&& Int32.toUInt32 31)).toInt32) &&& 1431655765)).toUInt32 >>> ((2 : Int32).toUInt32 &&& Int32.toUInt32 31)).toInt32) &&& 858993459)).toUInt32 >>> ((4 : Int32).toUInt32 &&& Int32.toUInt32 31)).toInt32))], M)) rfl rfl rfl ?_
  refine ps_st (S' := (32, [(0, .int (((y - (((y.toUInt32 >>> ((1 : Int32).toUInt32 &&& Int32.toUInt32 31)).toInt32) &&& 1431655765)) &&& 858993459) + ((((y - (((y.toUInt32 >>> ((1 : Int32).toUInt32 &&& Int32.toUInt32 31)).toInt32) &&& 1431655765)).toUInt32 >>> ((2 : Int32).toUInt32 &&& Int32.toUInt32 31)).toInt32) &&& 858993459)))], [.int 252645135, .int ((((y - (((y.toUInt32 >>> ((1 : Int32).toUInt32 &&& Int32.toUInt32 31)).toInt32) &&& 1431655765)) &&& 858993459) + ((((y - (((y.toUInt32 >>> ((1 : Int32).toUInt32 &&& Int32.toUInt32 31)).toInt32) &&& 1431655765)).toUInt32 >>> ((2 : Int32).toUInt32 &&& Int32.toUInt32 31)).toInt32) &&& 858993459)) + (((((y - (((y.toUInt32 >>> ((1 : Int32).toUInt32 &&& Int32.toUInt32 31)).toInt32) &&& 1431655765)) &&& 858993459) + ((((y - (((y.toUInt32 >>> ((1 : Int32).toUInt32 &&& Int32.toUInt32 31)).toInt32) &&& 1431655765)).toUInt32 >>> ((2 : Int32).toUInt32 &&& Int32.toUInt32 31)).toInt32) &&& 858993459)).toUInt32 >>> ((4 : Int32).toUInt32 &&& Int32.toUInt32 31)).toInt32))], M)) rfl rfl rfl ?_
  refine ps_st (S' := (33, [(0, .int (((y - (((y.toUInt32 >>> ((1 : Int32).toUInt32 &&& Int32.toUInt32 31)).toInt32) &&& 1431655765)) &&& 858993459) + ((((y - (((y.toUInt32 >>> ((1 : Int32).toUInt32 &&& Int32.toUInt32 31)).toInt32) &&& 1431655765)).toUInt32 >>> ((2 : Int32).toUInt32 &&& Int32.toUInt32 31)).toInt32) &&& 858993459)))], [.int (((((y - (((y.toUInt32 >>> ((1 : Int32).toUInt32 &&& Int32.toUInt32 31)).toInt32) &&& 1431655765)) &&& 858993459) + ((((y - (((y.toUInt32 >>> ((1 : Int32).toUInt32 &&& Int32.toUInt32 31)).toInt32) &&& 1431655765)).toUInt32 >>> ((2 : Int32).toUInt32 &&& Int32.toUInt32 31)).toInt32) &&& 858993459)) + (((((y - (((y.toUInt32 >>> ((1 : Int32).toUInt32 &&& Int32.toUInt32 31)).toInt32) &&& 1431655765)) &&& 858993459) + ((((y - (((y.toUInt32 >>> ((1 : Int32).toUInt32 &&& Int32.toUInt32 31)).toInt32) &&& 1431655765)).toUInt32 >>> ((2 : Int32).toUInt32 &&& Int32.toUInt32 31)).toInt32) &&& 858993459)).toUInt32 >>> ((4 : Int32).toUInt32 &&& Int32.toUInt32 31)).toInt32)) &&& 252645135)], M)) rfl rfl rfl ?_
  refine ps_st (S' := (34, [(0, .int (((((y - (((y.toUInt32 >>> ((1 : Int32).toUInt32 &&& Int32.toUInt32 31)).toInt32) &&& 1431655765)) &&& 858993459) + ((((y - (((y.toUInt32 >>> ((1 : Int32).toUInt32 &&& Int32.toUInt32 31)).toInt32) &&& 1431655765)).toUInt32 >>> ((2 : Int32).toUInt32 &&& Int32.toUInt32 31)).toInt32) &&& 858993459)) + (((((y - (((y.toUInt32 >>> ((1 : Int32).toUInt32 &&& Int32.toUInt32 31)).toInt32) &&& 1431655765)) &&& 858993459) + ((((y - (((y.toUInt32 >>> ((1 : Int32).toUInt32 &&& Int32.toUInt32 31)).toInt32) &&& 1431655765)).toUInt32 >>> ((2 : Int32).toUInt32 &&& Int32.toUInt32 31)).toInt32) &&& 858993459)).toUInt32 >>> ((4 : Int32).toUInt32 &&& Int32.toUInt32 31)).toInt32)) &&& 252645135))], [], M)) rfl rfl rfl ?_
  refine ps_st (S' := (35, [(0, .int (((((y - (((y.toUInt32 >>> ((1 : Int32).toUInt32 &&& Int32.toUInt32 31)).toInt32) &&& 1431655765)) &&& 858993459) + ((((y - (((y.toUInt32 >>> ((1 : Int32).toUInt32 &&& Int32.toUInt32 31)).toInt32) &&& 1431655765)).toUInt32 >>> ((2 : Int32).toUInt32 &&& Int32.toUInt32 31)).toInt32) &&& 858993459)) + (((((y - (((y.toUInt32 >>> ((1 : Int32).toUInt32 &&& Int32.toUInt32 31)).toInt32) &&& 1431655765)) &&& 858993459) + ((((y - (((y.toUInt32 >>> ((1 : Int32).toUInt32 &&& Int32.toUInt32 31)).toInt32) &&& 1431655765)).toUInt32 >>> ((2 : Int32).toUInt32 &&& Int32.toUInt32 31)).toInt32) &&& 858993459)).toUInt32 >>> ((4 : Int32).toUInt32 &&& Int32.toUInt32 31)).toInt32)) &&& 252645135))], [.int (((((y - (((y.toUInt32 >>> ((1 : Int32).toUInt32 &&& Int32.toUInt32 31)).toInt32) &&& 1431655765)) &&& 858993459) + ((((y - (((y.toUInt32 >>> ((1 : Int32).toUInt32 &&& Int32.toUInt32 31)).toInt32) &&& 1431655765)).toUInt32 >>> ((2 : Int32).toUInt32 &&& Int32.toUInt32 31)).toInt32) &&& 858993459)) + (((((y - (((y.toUInt32 >>> ((1 : Int32).toUInt32 &&& Int32.toUInt32 31)).toInt32) &&& 1431655765)) &&& 858993459) + ((((y - (((y.toUInt32 >>> ((1 : Int32).toUInt32 &&& Int32.toUInt32 31)).toInt32) &&& 1431655765)).toUInt32 >>> ((2 : Int32).toUInt32 &&& Int32.toUInt32 31)).toInt32) &&& 858993459)).toUInt32 >>> ((4 : Int32).toUInt32 &&& Int32.toUInt32 31)).toInt32)) &&& 252645135)], M)) rfl rfl rfl ?_
  refine ps_st (S' := (36, [(0, .int (((((y - (((y.toUInt32 >>> ((1 : Int32).toUInt32 &&& Int32.toUInt32 31)).toInt32) &&& 1431655765)) &&& 858993459) + ((((y - (((y.toUInt32 >>> ((1 : Int32).toUInt32 &&& Int32.toUInt32 31)).toInt32) &&& 1431655765)).toUInt32 >>> ((2 : Int32).toUInt32 &&& Int32.toUInt32 31)).toInt32) &&& 858993459)) + (((((y - (((y.toUInt32 >>> ((1 : Int32).toUInt32 &&& Int32.toUInt32 31)).toInt32) &&& 1431655765)) &&& 858993459) + ((((y - (((y.toUInt32 >>> ((1 : Int32).toUInt32 &&& Int32.toUInt32 31)).toInt32) &&& 1431655765)).toUInt32 >>> ((2 : Int32).toUInt32 &&& Int32.toUInt32 31)).toInt32) &&& 858993459)).toUInt32 >>> ((4 : Int32).toUInt32 &&& Int32.toUInt32 31)).toInt32)) &&& 252645135))], [.int (((((y - (((y.toUInt32 >>> ((1 : Int32).toUInt32 &&& Int32.toUInt32 31)).toInt32) &&& 1431655765)) &&& 858993459) + ((((y - (((y.toUInt32 >>> ((1 : Int32).toUInt32 &&& Int32.toUInt32 31)).toInt32) &&& 1431655765)).toUInt32 >>> ((2 : Int32).toUInt32 &&& Int32.toUInt32 31)).toInt32) &&& 858993459)) + (((((y - (((y.toUInt32 >>> ((1 : Int32).toUInt32 &&& Int32.toUInt32 31)).toInt32) &&& 1431655765)) &&& 858993459) + ((((y - (((y.toUInt32 >>> ((1 : Int32).toUInt32 &&& Int32.toUInt32 31)).toInt32) &&& 1431655765)).toUInt32 >>> ((2 : Int32).toUInt32 &&& Int32.toUInt32 31)).toInt32) &&& 858993459)).toUInt32 >>> ((4 : Int32).toUInt32 &&& Int32.toUInt32 31)).toInt32)) &&& 252645135), .int (((((y - (((y.toUInt32 >>> ((1 : Int32).toUInt32 &&& Int32.toUInt32 31)).toInt32) &&& 1431655765)) &&& 858993459) + ((((y - (((y.toUInt32 >>> ((1 : Int32).toUInt32 &&& Int32.toUInt32 31)).toInt32) &&& 1431655765)).toUInt32 >>> ((2 : Int32).toUInt32 &&& Int32.toUInt32 31)).toInt32) &&& 858993459)) + (((((y - (((y.toUInt32 >>> ((1 : Int32).toUInt32 &&& Int32.toUInt32 31)).toInt32) &&& 1431655765)) &&& 858993459) + ((((y - (((y.toUInt32 >>> ((1 : Int32).toUInt32 &&& Int32.toUInt32 31)).toInt32) &&& 1431655765)).toUInt32 >>> ((2 : Int32).toUInt32 &&& Int32.toUInt32 31)).toInt32) &&& 858993459)).toUInt32 >>> ((4 : Int32).toUInt32 &&& Int32.toUInt32 31)).toInt32)) &&& 252645135)], M)) rfl rfl rfl ?_
  refine ps_st (S' := (38, [(0, .int (((((y - (((y.toUInt32 >>> ((1 : Int32).toUInt32 &&& Int32.toUInt32 31)).toInt32) &&& 1431655765)) &&& 858993459) + ((((y - (((y.toUInt32 >>> ((1 : Int32).toUInt32 &&& Int32.toUInt32 31)).toInt32) &&& 1431655765)).toUInt32 >>> ((2 : Int32).toUInt32 &&& Int32.toUInt32 31)).toInt32) &&& 858993459)) + (((((y - (((y.toUInt32 >>> ((1 : Int32).toUInt32 &&& Int32.toUInt32 31)).toInt32) &&& 1431655765)) &&& 858993459) + ((((y - (((y.toUInt32 >>> ((1 : Int32).toUInt32 &&& Int32.toUInt32 31)).toInt32) &&& 1431655765)).toUInt32 >>> ((2 : Int32).toUInt32 &&& Int32.toUInt32 31)).toInt32) &&& 858993459)).toUInt32 >>> ((4 : Int32).toUInt32 &&& Int32.toUInt32 31)).toInt32)) &&& 252645135))], [.int 8, .int (((((y - (((y.toUInt32 >>> ((1 : Int32).toUInt32 &&& Int32.toUInt32 31)).toInt32) &&& 1431655765)) &&& 858993459) + ((((y - (((y.toUInt32 >>> ((1 : Int32).toUInt32 &&& Int32.toUInt32 31)).toInt32) &&& 1431655765)).toUInt32 >>> ((2 : Int32).toUInt32 &&& Int32.toUInt32 31)).toInt32) &&& 858993459)) + (((((y - (((y.toUInt32 >>> ((1 : Int32).toUInt32 &&& Int32.toUInt32 31)).toInt32) &&& 1431655765)) &&& 858993459) + ((((y - (((y.toUInt32 >>> ((1 : Int32).toUInt32 &&& Int32.toUInt32 31)).toInt32) &&& 1431655765)).toUInt32 >>> ((2 : Int32).toUInt32 &&& Int32.toUInt32 31)).toInt32) &&& 858993459)).toUInt32 >>> ((4 : Int32).toUInt32 &&& Int32.toUInt32 31)).toInt32)) &&& 252645135), .int (((((y - (((y.toUInt32 >>> ((1 : Int32).toUInt32 &&& Int32.toUInt32 31)).toInt32) &&& 1431655765)) &&& 858993459) + ((((y - (((y.toUInt32 >>> ((1 : Int32).toUInt32 &&& Int32.toUInt32 31)).toInt32) &&& 1431655765)).toUInt32 >>> ((2 : Int32).toUInt32 &&& Int32.toUInt32 31)).toInt32) &&& 858993459)) + (((((y - (((y.toUInt32 >>> ((1 : Int32).toUInt32 &&& Int32.toUInt32 31)).toInt32) &&& 1431655765)) &&& 858993459) + ((((y - (((y.toUInt32 >>> ((1 : Int32).toUInt32 &&& Int32.toUInt32 31)).toInt32) &&& 1431655765)).toUInt32 >>> ((2 : Int32).toUInt32 &&& Int32.toUInt32 31)).toInt32) &&& 858993459)).toUInt32 >>> ((4 : Int32).toUInt32 &&& Int32.toUInt32 31)).toInt32)) &&& 252645135)], M)) rfl rfl rfl ?_
  refine ps_st (S' := (39, [(0, .int (((((y - (((y.toUInt32 >>> ((1 : Int32).toUInt32 &&& Int32.toUInt32 31)).toInt32) &&& 1431655765)) &&& 858993459) + ((((y - (((y.toUInt32 >>> ((1 : Int32).toUInt32 &&& Int32.toUInt32 31)).toInt32) &&& 1431655765)).toUInt32 >>> ((2 : Int32).toUInt32 &&& Int32.toUInt32 31)).toInt32) &&& 858993459)) + (((((y - (((y.toUInt32 >>> ((1 : Int32).toUInt32 &&& Int32.toUInt32 31)).toInt32) &&& 1431655765)) &&& 858993459) + ((((y - (((y.toUInt32 >>> ((1 : Int32).toUInt32 &&& Int32.toUInt32 31)).toInt32) &&& 1431655765)).toUInt32 >>> ((2 : Int32).toUInt32 &&& Int32.toUInt32 31)).toInt32) &&& 858993459)).toUInt32 >>> ((4 : Int32).toUInt32 &&& Int32.toUInt32 31)).toInt32)) &&& 252645135))], [.int (((((((y - (((y.toUInt32 >>> ((1 : Int32).toUInt32 &&& Int32.toUInt32 31)).toInt32) &&& 1431655765)) &&& 858993459) + ((((y - (((y.toUInt32 >>> ((1 : Int32).toUInt32 &&& Int32.toUInt32 31)).toInt32) &&& 1431655765)).toUInt32 >>> ((2 : Int32).toUInt32 &&& Int32.toUInt32 31)).toInt32) &&& 858993459)) + (((((y - (((y.toUInt32 >>> ((1 : Int32).toUInt32 &&& Int32.toUInt32 31)).toInt32) &&& 1431655765)) &&& 858993459) + ((((y - (((y.toUInt32 >>> ((1 : Int32).toUInt32 &&& Int32.toUInt32 31)).toInt32) &&& 1431655765)).toUInt32 >>> ((2 : Int32).toUInt32 &&& Int32.toUInt32 31)).toInt32) &&& 858993459)).toUInt32 >>> ((4 : Int32).toUInt32 &&& Int32.toUInt32 31)).toInt32)) &&& 252645135).toUInt32 >>> ((8 : Int32).toUInt32 &&& Int32.toUInt32 31)).toInt32), .int (((((y - (((y.toUInt32 >>> ((1 : Int32).toUInt32 &&& Int32.toUInt32 31)).toInt32) &&& 1431655765)) &&& 858993459) + ((((y - (((y.toUInt32 >>> ((1 : Int32).toUInt32 &&& Int32.toUInt32 31)).toInt32) &&& 1431655765)).toUInt32 >>> ((2 : Int32).toUInt32 &&& Int32.toUInt32 31)).toInt32) &&& 858993459)) + (((((y - (((y.toUInt32 >>> ((1 : Int32).toUInt32 &&& Int32.toUInt32 31)).toInt32) &&& 1431655765)) &&& 858993459) + ((((y - (((y.toUInt32 >>> ((1 : Int32).toUInt32 &&& Int32.toUInt32 31)).toInt32) &&& 1431655765)).toUInt32 >>> ((2 : Int32).toUInt32 &&& Int32.toUInt32 31)).toInt32) &&& 858993459)).toUInt32 >>> ((4 : Int32).toUInt32 &&& Int32.toUInt32 31)).toInt32)) &&& 252645135)], M)) rfl rfl rfl ?_
  refine ps_st (S' := (40, [(0, .int (((((y - (((y.toUInt32 >>> ((1 : Int32).toUInt32 &&& Int32.toUInt32 31)).toInt32) &&& 1431655765)) &&& 858993459) + ((((y - (((y.toUInt32 >>> ((1 : Int32).toUInt32 &&& Int32.toUInt32 31)).toInt32) &&& 1431655765)).toUInt32 >>> ((2 : Int32).toUInt32 &&& Int32.toUInt32 31)).toInt32) &&& 858993459)) + (((((y - (((y.toUInt32 >>> ((1 : Int32).toUInt32 &&& Int32.toUInt32 31)).toInt32) &&& 1431655765)) &&& 858993459) + ((((y - (((y.toUInt32 >>> ((1 : Int32).toUInt32 &&& Int32.toUInt32 31)).toInt32) &&& 1431655765)).toUInt32 >>> ((2 : Int32).toUInt32 &&& Int32.toUInt32 31)).toInt32) &&& 858993459)).toUInt32 >>> ((4 : Int32).toUInt32 &&& Int32.toUInt32 31)).toInt32)) &&& 252645135))], [.int ((((((y - (((y.toUInt32 >>> ((1 : Int32).toUInt32 &&& Int32.toUInt32 31)).toInt32) &&& 1431655765)) &&& 858993459) + ((((y - (((y.toUInt32 >>> ((1 : Int32).toUInt32 &&& Int32.toUInt32 31)).toInt32) &&& 1431655765)).toUInt32 >>> ((2 : Int32).toUInt32 &&& Int32.toUInt32 31)).toInt32) &&& 858993459)) + (((((y - (((y.toUInt32 >>> ((1 : Int32).toUInt32 &&& Int32.toUInt32 31)).toInt32) &&& 1431655765)) &&& 858993459) + ((((y - (((y.toUInt32 >>> ((1 : Int32).toUInt32 &&& Int32.toUInt32 31)).toInt32) &&& 1431655765)).toUInt32 >>> ((2 : Int32).toUInt32 &&& Int32.toUInt32 31)).toInt32) &&& 858993459)).toUInt32 >>> ((4 : Int32).toUInt32 &&& Int32.toUInt32 31)).toInt32)) &&& 252645135) + (((((((y - (((y.toUInt32 >>> ((1 : Int32).toUInt32 &&& Int32.toUInt32 31)).toInt32) &&& 1431655765)) &&& 858993459) + ((((y - (((y.toUInt32 >>> ((1 : Int32).toUInt32 &&& Int32.toUInt32 31)).toInt32) &&& 1431655765)).toUInt32 >>> ((2 : Int32).toUInt32 &&& Int32.toUInt32 31)).toInt32) &&& 858993459)) + (((((y - (((y.toUInt32 >>> ((1 : Int32).toUInt32 &&& Int32.toUInt32 31)).toInt32) &&& 1431655765)) &&& 858993459) + ((((y - (((y.toUInt32 >>> ((1 : Int32).toUInt32 &&& Int32.toUInt32 31)).toInt32) &&& 1431655765)).toUInt32 >>> ((2 : Int32).toUInt32 &&& Int32.toUInt32 31)).toInt32) &&& 858993459)).toUInt32 >>> ((4 : Int32).toUInt32 &&& Int32.toUInt32 31)).toInt32)) &&& 252645135).toUInt32 >>> ((8 : Int32).toUInt32 &&& Int32.toUInt32 31)).toInt32))], M)) rfl rfl rfl ?_
  refine ps_st (S' := (41, [(0, .int ((((((y - (((y.toUInt32 >>> ((1 : Int32).toUInt32 &&& Int32.toUInt32 31)).toInt32) &&& 1431655765)) &&& 858993459) + ((((y - (((y.toUInt32 >>> ((1 : Int32).toUInt32 &&& Int32.toUInt32 31)).toInt32) &&& 1431655765)).toUInt32 >>> ((2 : Int32).toUInt32 &&& Int32.toUInt32 31)).toInt32) &&& 858993459)) + (((((y - (((y.toUInt32 >>> ((1 : Int32).toUInt32 &&& Int32.toUInt32 31)).toInt32) &&& 1431655765)) &&& 858993459) + ((((y - (((y.toUInt32 >>> ((1 : Int32).toUInt32 &&& Int32.toUInt32 31)).toInt32) &&& 1431655765)).toUInt32 >>> ((2 : Int32).toUInt32 &&& Int32.toUInt32 31)).toInt32) &&& 858993459)).toUInt32 >>> ((4 : Int32).toUInt32 &&& Int32.toUInt32 31)).toInt32)) &&& 252645135) + (((((((y - (((y.toUInt32 >>> ((1 : Int32).toUInt32 &&& Int32.toUInt32 31)).toInt32) &&& 1431655765)) &&& 858993459) + ((((y - (((y.toUInt32 >>> ((1 : Int32).toUInt32 &&& Int32.toUInt32 31)).toInt32) &&& 1431655765)).toUInt32 >>> ((2 : Int32).toUInt32 &&& Int32.toUInt32 31)).toInt32) &&& 858993459)) + (((((y - (((y.toUInt32 >>> ((1 : Int32).toUInt32 &&& Int32.toUInt32 31)).toInt32) &&& 1431655765)) &&& 858993459) + ((((y - (((y.toUInt32 >>> ((1 : Int32).toUInt32 &&& Int32.toUInt32 31)).toInt32) &&& 1431655765)).toUInt32 >>> ((2 : Int32).toUInt32 &&& Int32.toUInt32 31)).toInt32) &&& 858993459)).toUInt32 >>> ((4 : Int32).toUInt32 &&& Int32.toUInt32 31)).toInt32)) &&& 252645135).toUInt32 >>> ((8 : Int32).toUInt32 &&& Int32.toUInt32 31)).toInt32)))], [], M)) rfl rfl rfl ?_
  refine ps_st (S' := (42, [(0, .int ((((((y - (((y.toUInt32 >>> ((1 : Int32).toUInt32 &&& Int32.toUInt32 31)).toInt32) &&& 1431655765)) &&& 858993459) + ((((y - (((y.toUInt32 >>> ((1 : Int32).toUInt32 &&& Int32.toUInt32 31)).toInt32) &&& 1431655765)).toUInt32 >>> ((2 : Int32).toUInt32 &&& Int32.toUInt32 31)).toInt32) &&& 858993459)) + (((((y - (((y.toUInt32 >>> ((1 : Int32).toUInt32 &&& Int32.toUInt32 31)).toInt32) &&& 1431655765)) &&& 858993459) + ((((y - (((y.toUInt32 >>> ((1 : Int32).toUInt32 &&& Int32.toUInt32 31)).toInt32) &&& 1431655765)).toUInt32 >>> ((2 : Int32).toUInt32 &&& Int32.toUInt32 31)).toInt32) &&& 858993459)).toUInt32 >>> ((4 : Int32).toUInt32 &&& Int32.toUInt32 31)).toInt32)) &&& 252645135) + (((((((y - (((y.toUInt32 >>> ((1 : Int32).toUInt32 &&& Int32.toUInt32 31)).toInt32) &&& 1431655765)) &&& 858993459) + ((((y - (((y.toUInt32 >>> ((1 : Int32).toUInt32 &&& Int32.toUInt32 31)).toInt32) &&& 1431655765)).toUInt32 >>> ((2 : Int32).toUInt32 &&& Int32.toUInt32 31)).toInt32) &&& 858993459)) + (((((y - (((y.toUInt32 >>> ((1 : Int32).toUInt32 &&& Int32.toUInt32 31)).toInt32) &&& 1431655765)) &&& 858993459) + ((((y - (((y.toUInt32 >>> ((1 : Int32).toUInt32 &&& Int32.toUInt32 31)).toInt32) &&& 1431655765)).toUInt32 >>> ((2 : Int32).toUInt32 &&& Int32.toUInt32 31)).toInt32) &&& 858993459)).toUInt32 >>> ((4 : Int32).toUInt32 &&& Int32.toUInt32 31)).toInt32)) &&& 252645135).toUInt32 >>> ((8 : Int32).toUInt32 &&& Int32.toUInt32 31)).toInt32)))], [.int ((((((y - (((y.toUInt32 >>> ((1 : Int32).toUInt32 &&& Int32.toUInt32 31)).toInt32) &&& 1431655765)) &&& 858993459) + ((((y - (((y.toUInt32 >>> ((1 : Int32).toUInt32 &&& Int32.toUInt32 31)).toInt32) &&& 1431655765)).toUInt32 >>> ((2 : Int32).toUInt32 &&& Int32.toUInt32 31)).toInt32) &&& 858993459)) + (((((y - (((y.toUInt32 >>> ((1 : Int32).toUInt32 &&& Int32.toUInt32 31)).toInt32) &&& 1431655765)) &&& 858993459) + ((((y - (((y.toUInt32 >>> ((1 : Int32).toUInt32 &&& Int32.toUInt32 31)).toInt32) &&& 1431655765)).toUInt32 >>> ((2 : Int32).toUInt32 &&& Int32.toUInt32 31)).toInt32) &&& 858993459)).toUInt32 >>> ((4 : Int32).toUInt32 &&& Int32.toUInt32 31)).toInt32)) &&& 252645135) + (((((((y - (((y.toUInt32 >>> ((1 : Int32).toUInt32 &&& Int32.toUInt32 31)).toInt32) &&& 1431655765)) &&& 858993459) + ((((y - (((y.toUInt32 >>> ((1 : Int32).toUInt32 &&& Int32.toUInt32 31)).toInt32) &&& 1431655765)).toUInt32 >>> ((2 : Int32).toUInt32 &&& Int32.toUInt32 31)).toInt32) &&& 858993459)) + (((((y - (((y.toUInt32 >>> ((1 : Int32).toUInt32 &&& Int32.toUInt32 31)).toInt32) &&& 1431655765)) &&& 858993459) + ((((y - (((y.toUInt32 >>> ((1 : Int32).toUInt32 &&& Int32.toUInt32 31)).toInt32) &&& 1431655765)).toUInt32 >>> ((2 : Int32).toUInt32 &&& Int32.toUInt32 31)).toInt32) &&& 858993459)).toUInt32 >>> ((4 : Int32).toUInt32 &&& Int32.toUInt32 31)).toInt32)) &&& 252645135).toUInt32 >>> ((8 : Int32).toUInt32 &&& Int32.toUInt32 31)).toInt32))], M)) rfl rfl rfl ?_
  refine ps_st (S' := (43, [(0, .int ((((((y - (((y.toUInt32 >>> ((1 : Int32).toUInt32 &&& Int32.toUInt32 31)).toInt32) &&& 1431655765)) &&& 858993459) + ((((y - (((y.toUInt32 >>> ((1 : Int32).toUInt32 &&& Int32.toUInt32 31)).toInt32) &&& 1431655765)).toUInt32 >>> ((2 : Int32).toUInt32 &&& Int32.toUInt32 31)).toInt32) &&& 858993459)) + (((((y - (((y.toUInt32 >>> ((1 : Int32).toUInt32 &&& Int32.toUInt32 31)).toInt32) &&& 1431655765)) &&& 858993459) + ((((y - (((y.toUInt32 >>> ((1 : Int32).toUInt32 &&& Int32.toUInt32 31)).toInt32) &&& 1431655765)).toUInt32 >>> ((2 : Int32).toUInt32 &&& Int32.toUInt32 31)).toInt32) &&& 858993459)).toUInt32 >>> ((4 : Int32).toUInt32 &&& Int32.toUInt32 31)).toInt32)) &&& 252645135) + (((((((y - (((y.toUInt32 >>> ((1 : Int32).toUInt32 &&& Int32.toUInt32 31)).toInt32) &&& 1431655765)) &&& 858993459) + ((((y - (((y.toUInt32 >>> ((1 : Int32).toUInt32 &&& Int32.toUInt32 31)).toInt32) &&& 1431655765)).toUInt32 >>> ((2 : Int32).toUInt32 &&& Int32.toUInt32 31)).toInt32) &&& 858993459)) + (((((y - (((y.toUInt32 >>> ((1 : Int32).toUInt32 &&& Int32.toUInt32 31)).toInt32) &&& 1431655765)) &&& 858993459) + ((((y - (((y.toUInt32 >>> ((1 : Int32).toUInt32 &&& Int32.toUInt32 31)).toInt32) &&& 1431655765)).toUInt32 >>> ((2 : Int32).toUInt32 &&& Int32.toUInt32 31)).toInt32) &&& 858993459)).toUInt32 >>> ((4 : Int32).toUInt32 &&& Int32.toUInt32 31)).toInt32)) &&& 252645135).toUInt32 >>> ((8 : Int32).toUInt32 &&& Int32.toUInt32 31)).toInt32)))], [.int ((((((y - (((y.toUInt32 >>> ((1 : Int32).toUInt32 &&& Int32.toUInt32 31)).toInt32) &&& 1431655765)) &&& 858993459) + ((((y - (((y.toUInt32 >>> ((1 : Int32).toUInt32 &&& Int32.toUInt32 31)).toInt32) &&& 1431655765)).toUInt32 >>> ((2 : Int32).toUInt32 &&& Int32.toUInt32 31)).toInt32) &&& 858993459)) + (((((y - (((y.toUInt32 >>> ((1 : Int32).toUInt32 &&& Int32.toUInt32 31)).toInt32) &&& 1431655765)) &&& 858993459) + ((((y - (((y.toUInt32 >>> ((1 : Int32).toUInt32 &&& Int32.toUInt32 31)).toInt32) &&& 1431655765)).toUInt32 >>> ((2 : Int32).toUInt32 &&& Int32.toUInt32 31)).toInt32) &&& 858993459)).toUInt32 >>> ((4 : Int32).toUInt32 &&& Int32.toUInt32 31)).toInt32)) &&& 252645135) + (((((((y - (((y.toUInt32 >>> ((1 : Int32).toUInt32 &&& Int32.toUInt32 31)).toInt32) &&& 1431655765)) &&& 858993459) + ((((y - (((y.toUInt32 >>> ((1 : Int32).toUInt32 &&& Int32.toUInt32 31)).toInt32) &&& 1431655765)).toUInt32 >>> ((2 : Int32).toUInt32 &&& Int32.toUInt32 31)).toInt32) &&& 858993459)) + (((((y - (((y.toUInt32 >>> ((1 : Int32).toUInt32 &&& Int32.toUInt32 31)).toInt32) &&& 1431655765)) &&& 858993459) + ((((y - (((y.toUInt32 >>> ((1 : Int32).toUInt32 &&& Int32.toUInt32 31)).toInt32) &&& 1431655765)).toUInt32 >>> ((2 : Int32).toUInt32 &&& Int32.toUInt32 31)).toInt32) &&& 858993459)).toUInt32 >>> ((4 : Int32).toUInt32 &&& Int32.toUInt32 31)).toInt32)) &&& 252645135).toUInt32 >>> ((8 : Int32).toUInt32 &&& Int32.toUInt32 31)).toInt32)), .int ((((((y - (((y.toUInt32 >>> ((1 : Int32).toUInt32 &&& Int32.toUInt32 31)).toInt32) &&& 1431655765)) &&& 858993459) + ((((y - (((y.toUInt32 >>> ((1 : Int32).toUInt32 &&& Int32.toUInt32 31)).toInt32) &&& 1431655765)).toUInt32 >>> ((2 : Int32).toUInt32 &&& Int32.toUInt32 31)).toInt32) &&& 858993459)) + (((((y - (((y.toUInt32 >>> ((1 : Int32).toUInt32 &&& Int32.toUInt32 31)).toInt32) &&& 1431655765)) &&& 858993459) + ((((y - (((y.toUInt32 >>> ((1 : Int32).toUInt32 &&& Int32.toUInt32 31)).toInt32) &&& 1431655765)).toUInt32 >>> ((2 : Int32).toUInt32 &&& Int32.toUInt32 31)).toInt32) &&& 858993459)).toUInt32 >>> ((4 : Int32).toUInt32 &&& Int32.toUInt32 31)).toInt32)) &&& 252645135) + (((((((y - (((y.toUInt32 >>> ((1 : Int32).toUInt32 &&& Int32.toUInt32 31)).toInt32) &&& 1431655765)) &&& 858993459) + ((((y - (((y.toUInt32 >>> ((1 : Int32).toUInt32 &&& Int32.toUInt32 31)).toInt32) &&& 1431655765)).toUInt32 >>> ((2 : Int32).toUInt32 &&& Int32.toUInt32 31)).toInt32) &&& 858993459)) + (((((y - (((y.toUInt32 >>> ((1 : Int32).toUInt32 &&& Int32.toUInt32 31)).toInt32) &&& 1431655765)) &&& 858993459) + ((((y - (((y.toUInt32 >>> ((1 : Int32).toUInt32 &&& Int32.toUInt32 31)).toInt32) &&& 1431655765)).toUInt32 >>> ((2 : Int32).toUInt32 &&& Int32.toUInt32 31)).toInt32) &&& 858993459)).toUInt32 >>> ((4 : Int32).toUInt32 &&& Int32.toUInt32 31)).toInt32)) &&& 252645135).toUInt32 >>> ((8 : Int32).toUInt32 &&& Int32.toUInt32 31)).toInt32))], M)) rfl rfl rfl ?_
  refine ps_st (S' := (45, [(0, .int ((((((y - (((y.toUInt32 >>> ((1 : Int32).toUInt32 &&& Int32.toUInt32 31)).toInt32) &&& 1431655765)) &&& 858993459) + ((((y - (((y.toUInt32 >>> ((1 : Int32).toUInt32 &&& Int32.toUInt32 31)).toInt32) &&& 1431655765)).toUInt32 >>> ((2 : Int32).toUInt32 &&& Int32.toUInt32 31)).toInt32) &&& 858993459)) + (((((y - (((y.toUInt32 >>> ((1 : Int32).toUInt32 &&& Int32.toUInt32 31)).toInt32) &&& 1431655765)) &&& 858993459) + ((((y - (((y.toUInt32 >>> ((1 : Int32).toUInt32 &&& Int32.toUInt32 31)).toInt32) &&& 1431655765)).toUInt32 >>> ((2 : Int32).toUInt32 &&& Int32.toUInt32 31)).toInt32) &&& 858993459)).toUInt32 >>> ((4 : Int32).toUInt32 &&& Int32.toUInt32 31)).toInt32)) &&& 252645135) + (((((((y - (((y.toUInt32 >>> ((1 : Int32).toUInt32 &&& Int32.toUInt32 31)).toInt32) &&& 1431655765)) &&& 858993459) + ((((y - (((y.toUInt32 >>> ((1 : Int32).toUInt32 &&& Int32.toUInt32 31)).toInt32) &&& 1431655765)).toUInt32 >>> ((2 : Int32).toUInt32 &&& Int32.toUInt32 31)).toInt32) &&& 858993459)) + (((((y - (((y.toUInt32 >>> ((1 : Int32).toUInt32 &&& Int32.toUInt32 31)).toInt32) &&& 1431655765)) &&& 858993459) + ((((y - (((y.toUInt32 >>> ((1 : Int32).toUInt32 &&& Int32.toUInt32 31)).toInt32) &&& 1431655765)).toUInt32 >>> ((2 : Int32).toUInt32 &&& Int32.toUInt32 31)).toInt32) &&& 858993459)).toUInt32 >>> ((4 : Int32).toUInt32 &&& Int32.toUInt32 31)).toInt32)) &&& 252645135).toUInt32 >>> ((8 : Int32).toUInt32 &&& Int32.toUInt32 31)).toInt32)))], [.int 16, .int ((((((y - (((y.toUInt32 >>> ((1 : Int32).toUInt32 &&& Int32.toUInt32 31)).toInt32) &&& 1431655765)) &&& 858993459) + ((((y - (((y.toUInt32 >>> ((1 : Int32).toUInt32 &&& Int32.toUInt32 31)).toInt32) &&& 1431655765)).toUInt32 >>> ((2 : Int32).toUInt32 &&& Int32.toUInt32 31)).toInt32) &&& 858993459)) + (((((y - (((y.toUInt32 >>> ((1 : Int32).toUInt32 &&& Int32.toUInt32 31)).toInt32) &&& 1431655765)) &&& 858993459) + ((((y - (((y.toUInt32 >>> ((1 : Int32).toUInt32 &&& Int32.toUInt32 31)).toInt32) &&& 1431655765)).toUInt32 >>> ((2 : Int32).toUInt32 &&& Int32.toUInt32 31)).toInt32) &&& 858993459)).toUInt32 >>> ((4 : Int32).toUInt32 &&& Int32.toUInt32 31)).toInt32)) &&& 252645135) + (((((((y - (((y.toUInt32 >>> ((1 : Int32).toUInt32 &&& Int32.toUInt32 31)).toInt32) &&& 1431655765)) &&& 858993459) + ((((y - (((y.toUInt32 >>> ((1 : Int32).toUInt32 &&& Int32.toUInt32 31)).toInt32) &&& 1431655765)).toUInt32 >>> ((2 : Int32).toUInt32 &&& Int32.toUInt32 31)).toInt32) &&& 858993459)) + (((((y - (((y.toUInt32 >>> ((1 : Int32).toUInt32 &&& Int32.toUInt32 31)).toInt32) &&& 1431655765)) &&& 858993459) + ((((y - (((y.toUInt32 >>> ((1 : Int32).toUInt32 &&& Int32.toUInt32 31)).toInt32) &&& 1431655765)).toUInt32 >>> ((2 : Int32).toUInt32 &&& Int32.toUInt32 31)).toInt32) &&& 858993459)).toUInt32 >>> ((4 : Int32).toUInt32 &&& Int32.toUInt32 31)).toInt32)) &&& 252645135).toUInt32 >>> ((8 : Int32).toUInt32 &&& Int32.toUInt32 31)).toInt32)), .int ((((((y - (((y.toUInt32 >>> ((1 : Int32).toUInt32 &&& Int32.toUInt32 31)).toInt32) &&& 1431655765)) &&& 858993459) + ((((y - (((y.toUInt32 >>> ((1 : Int32).toUInt32 &&& Int32.toUInt32 31)).toInt32) &&& 1431655765)).toUInt32 >>> ((2 : Int32).toUInt32 &&& Int32.toUInt32 31)).toInt32) &&& 858993459)) + (((((y - (((y.toUInt32 >>> ((1 : Int32).toUInt32 &&& Int32.toUInt32 31)).toInt32) &&& 1431655765)) &&& 858993459) + ((((y - (((y.toUInt32 >>> ((1 : Int32).toUInt32 &&& Int32.toUInt32 31)).toInt32) &&& 1431655765)).toUInt32 >>> ((2 : Int32).toUInt32 &&& Int32.toUInt32 31)).toInt32) &&& 858993459)).toUInt32 >>> ((4 : Int32).toUInt32 &&& Int32.toUInt32 31)).toInt32)) &&& 252645135) + (((((((y - (((y.toUInt32 >>> ((1 : Int32).toUInt32 &&& Int32.toUInt32 31)).toInt32) &&& 1431655765)) &&& 858993459) + ((((y - (((y.toUInt32 >>> ((1 : Int32).toUInt32 &&& Int32.toUInt32 31)).toInt32) &&& 1431655765)).toUInt32 >>> ((2 : Int32).toUInt32 &&& Int32.toUInt32 31)).toInt32) &&& 858993459)) + (((((y - (((y.toUInt32 >>> ((1 : Int32).toUInt32 &&& Int32.toUInt32 31)).toInt32) &&& 1431655765)) &&& 858993459) + ((((y - (((y.toUInt32 >>> ((1 : Int32).toUInt32 &&& Int32.toUInt32 31)).toInt32) &&& 1431655765)).toUInt32 >>> ((2 : Int32).toUInt32 &&& Int32.toUInt32 31)).toInt32) &&& 858993459)).toUInt32 >>> ((4 : Int32).toUInt32 &&& Int32.toUInt32 31)).toInt32)) &&& 252645135).toUInt32 >>> ((8 : Int32).toUInt32 &&& Int32.toUInt32 31)).toInt32))], M)) rfl rfl rfl ?_
  refine ps_st (S' := (46, [(0, .int ((((((y - (((y.toUInt32 >>> ((1 : Int32).toUInt32 &&& Int32.toUInt32 31)).toInt32) &&& 1431655765)) &&& 858993459) + ((((y - (((y.toUInt32 >>> ((1 : Int32).toUInt32 &&& Int32.toUInt32 31)).toInt32) &&& 1431655765)).toUInt32 >>> ((2 : Int32).toUInt32 &&& Int32.toUInt32 31)).toInt32) &&& 858993459)) + (((((y - (((y.toUInt32 >>> ((1 : Int32).toUInt32 &&& Int32.toUInt32 31)).toInt32) &&& 1431655765)) &&& 858993459) + ((((y - (((y.toUInt32 >>> ((1 : Int32).toUInt32 &&& Int32.toUInt32 31)).toInt32) &&& 1431655765)).toUInt32 >>> ((2 : Int32).toUInt32 &&& Int32.toUInt32 31)).toInt32) &&& 858993459)).toUInt32 >>> ((4 : Int32).toUInt32 &&& Int32.toUInt32 31)).toInt32)) &&& 252645135) + (((((((y - (((y.toUInt32 >>> ((1 : Int32).toUInt32 &&& Int32.toUInt32 31)).toInt32) &&& 1431655765)) &&& 858993459) + ((((y - (((y.toUInt32 >>> ((1 : Int32).toUInt32 &&& Int32.toUInt32 31)).toInt32) &&& 1431655765)).toUInt32 >>> ((2 : Int32).toUInt32 &&& Int32.toUInt32 31)).toInt32) &&& 858993459)) + (((((y - (((y.toUInt32 >>> ((1 : Int32).toUInt32 &&& Int32.toUInt32 31)).toInt32) &&& 1431655765)) &&& 858993459) + ((((y - (((y.toUInt32 >>> ((1 : Int32).toUInt32 &&& Int32.toUInt32 31)).toInt32) &&& 1431655765)).toUInt32 >>> ((2 : Int32).toUInt32 &&& Int32.toUInt32 31)).toInt32) &&& 858993459)).toUInt32 >>> ((4 : Int32).toUInt32 &&& Int32.toUInt32 31)).toInt32)) &&& 252645135).toUInt32 >>> ((8 : Int32).toUInt32 &&& Int32.toUInt32 31)).toInt32)))], [.int ((((((((y - (((y.toUInt32 >>> ((1 : Int32).toUInt32 &&& Int32.toUInt32 31)).toInt32) &&& 1431655765)) &&& 858993459) + ((((y - (((y.toUInt32 >>> ((1 : Int32).toUInt32 &&& Int32.toUInt32 31)).toInt32) &&& 1431655765)).toUInt32 >>> ((2 : Int32).toUInt32 &&& Int32.toUInt32 31)).toInt32) &&& 858993459)) + (((((y - (((y.toUInt32 >>> ((1 : Int32).toUInt32 &&& Int32.toUInt32 31)).toInt32) &&& 1431655765)) &&& 858993459) + ((((y - (((y.toUInt32 >>> ((1 : Int32).toUInt32 &&& Int32.toUInt32 31)).toInt32) &&& 1431655765)).toUInt32 >>> ((2 : Int32).toUInt32 &&& Int32.toUInt32 31)).toInt32) &&& 858993459)).toUInt32 >>> ((4 : Int32).toUInt32 &&& Int32.toUInt32 31)).toInt32)) &&& 252645135) + (((((((y - (((y.toUInt32 >>> ((1 : Int32).toUInt32 &&& Int32.toUInt32 31)).toInt32) &&& 1431655765)) &&& 858993459) + ((((y - (((y.toUInt32 >>> ((1 : Int32).toUInt32 &&& Int32.toUInt32 31)).toInt32) &&& 1431655765)).toUInt32 >>> ((2 : Int32).toUInt32 &&& Int32.toUInt32 31)).toInt32) &&& 858993459)) + (((((y - (((y.toUInt32 >>> ((1 : Int32).toUInt32 &&& Int32.toUInt32 31)).toInt32) &&& 1431655765)) &&& 858993459) + ((((y - (((y.toUInt32 >>> ((1 : Int32).toUInt32 &&& Int32.toUInt32 31)).toInt32) &&& 1431655765)).toUInt32 >>> ((2 : Int32).toUInt32 &&& Int32.toUInt32 31)).toInt32) &&& 858993459)).toUInt32 >>> ((4 : Int32).toUInt32 &&& Int32.toUInt32 31)).toInt32)) &&& 252645135).toUInt32 >>> ((8 : Int32).toUInt32 &&& Int32.toUInt32 31)).toInt32)).toUInt32 >>> ((16 : Int32).toUInt32 &&& Int32.toUInt32 31)).toInt32), .int ((((((y - (((y.toUInt32 >>> ((1 : Int32).toUInt32 &&& Int32.toUInt32 31)).toInt32) &&& 1431655765)) &&& 858993459) + ((((y - (((y.toUInt32 >>> ((1 : Int32).toUInt32 &&& Int32.toUInt32 31)).toInt32) &&& 1431655765)).toUInt32 >>> ((2 : Int32).toUInt32 &&& Int32.toUInt32 31)).toInt32) &&& 858993459)) + (((((y - (((y.toUInt32 >>> ((1 : Int32).toUInt32 &&& Int32.toUInt32 31)).toInt32) &&& 1431655765)) &&& 858993459) + ((((y - (((y.toUInt32 >>> ((1 : Int32).toUInt32 &&& Int32.toUInt32 31)).toInt32) &&& 1431655765)).toUInt32 >>> ((2 : Int32).toUInt32 &&& Int32.toUInt32 31)).toInt32) &&& 858993459)).toUInt32 >>> ((4 : Int32).toUInt32 &&& Int32.toUInt32 31)).toInt32)) &&& 252645135) + (((((((y - (((y.toUInt32 >>> ((1 : Int32).toUInt32 &&& Int32.toUInt32 31)).toInt32) &&& 1431655765)) &&& 858993459) + ((((y - (((y.toUInt32 >>> ((1 : Int32).toUInt32 &&& Int32.toUInt32 31)).toInt32) &&& 1431655765)).toUInt32 >>> ((2 : Int32).toUInt32 &&& Int32.toUInt32 31)).toInt32) &&& 858993459)) + (((((y - (((y.toUInt32 >>> ((1 : Int32).toUInt32 &&& Int32.toUInt32 31)).toInt32) &&& 1431655765)) &&& 858993459) + ((((y - (((y.toUInt32 >>> ((1 : Int32).toUInt32 &&& Int32.toUInt32 31)).toInt32) &&& 1431655765)).toUInt32 >>> ((2 : Int32).toUInt32 &&& Int32.toUInt32 31)).toInt32) &&& 858993459)).toUInt32 >>> ((4 : Int32).toUInt32 &&& Int32.toUInt32 31)).toInt32)) &&& 252645135).toUInt32 >>> ((8 : Int32).toUInt32 &&& Int32.toUInt32 31)).toInt32))], M)) rfl rfl rfl ?_
  refine ps_st (S' := (47, [(0, .int ((((((y - (((y.toUInt32 >>> ((1 : Int32).toUInt32 &&& Int32.toUInt32 31)).toInt32) &&& 1431655765)) &&& 858993459) + ((((y - (((y.toUInt32 >>> ((1 : Int32).toUInt32 &&& Int32.toUInt32 31)).toInt32) &&& 1431655765)).toUInt32 >>> ((2 : Int32).toUInt32 &&& Int32.toUInt32 31)).toInt32) &&& 858993459)) + (((((y - (((y.toUInt32 >>> ((1 : Int32).toUInt32 &&& Int32.toUInt32 31)).toInt32) &&& 1431655765)) &&& 858993459) + ((((y - (((y.toUInt32 >>> ((1 : Int32).toUInt32 &&& Int32.toUInt32 31)).toInt32) &&& 1431655765)).toUInt32 >>> ((2 : Int32).toUInt32 &&& Int32.toUInt32 31)).toInt32) &&& 858993459)).toUInt32 >>> ((4 : Int32).toUInt32 &&& Int32.toUInt32 31)).toInt32)) &&& 252645135) + (((((((y - (((y.toUInt32 >>> ((1 : Int32).toUInt32 &&& Int32.toUInt32 31)).toInt32) &&& 1431655765)) &&& 858993459) + ((((y - (((y.toUInt32 >>> ((1 : Int32).toUInt32 &&& Int32.toUInt32 31)).toInt32) &&& 1431655765)).toUInt32 >>> ((2 : Int32).toUInt32 &&& Int32.toUInt32 31)).toInt32) &&& 858993459)) + (((((y - (((y.toUInt32 >>> ((1 : Int32).toUInt32 &&& Int32.toUInt32 31)).toInt32) &&& 1431655765)) &&& 858993459) + ((((y - (((y.toUInt32 >>> ((1 : Int32).toUInt32 &&& Int32.toUInt32 31)).toInt32) &&& 1431655765)).toUInt32 >>> ((2 : Int32).toUInt32 &&& Int32.toUInt32 31)).toInt32) &&& 858993459)).toUInt32 >>> ((4 : Int32).toUInt32 &&& Int32.toUInt32 31)).toInt32)) &&& 252645135).toUInt32 >>> ((8 : Int32).toUInt32 &&& Int32.toUInt32 31)).toInt32)))], [.int (((((((y - (((y.toUInt32 >>> ((1 : Int32).toUInt32 &&& Int32.toUInt32 31)).toInt32) &&& 1431655765)) &&& 858993459) + ((((y - (((y.toUInt32 >>> ((1 : Int32).toUInt32 &&& Int32.toUInt32 31)).toInt32) &&& 1431655765)).toUInt32 >>> ((2 : Int32).toUInt32 &&& Int32.toUInt32 31)).toInt32) &&& 858993459)) + (((((y - (((y.toUInt32 >>> ((1 : Int32).toUInt32 &&& Int32.toUInt32 31)).toInt32) &&& 1431655765)) &&& 858993459) + ((((y - (((y.toUInt32 >>> ((1 : Int32).toUInt32 &&& Int32.toUInt32 31)).toInt32) &&& 1431655765)).toUInt32 >>> ((2 : Int32).toUInt32 &&& Int32.toUInt32 31)).toInt32) &&& 858993459)).toUInt32 >>> ((4 : Int32).toUInt32 &&& Int32.toUInt32 31)).toInt32)) &&& 252645135) + (((((((y - (((y.toUInt32 >>> ((1 : Int32).toUInt32 &&& Int32.toUInt32 31)).toInt32) &&& 1431655765)) &&& 858993459) + ((((y - (((y.toUInt32 >>> ((1 : Int32).toUInt32 &&& Int32.toUInt32 31)).toInt32) &&& 1431655765)).toUInt32 >>> ((2 : Int32).toUInt32 &&& Int32.toUInt32 31)).toInt32) &&& 858993459)) + (((((y - (((y.toUInt32 >>> ((1 : Int32).toUInt32 &&& Int32.toUInt32 31)).toInt32) &&& 1431655765)) &&& 858993459) + ((((y - (((y.toUInt32 >>> ((1 : Int32).toUInt32 &&& Int32.toUInt32 31)).toInt32) &&& 1431655765)).toUInt32 >>> ((2 : Int32).toUInt32 &&& Int32.toUInt32 31)).toInt32) &&& 858993459)).toUInt32 >>> ((4 : Int32).toUInt32 &&& Int32.toUInt32 31)).toInt32)) &&& 252645135).toUInt32 >>> ((8 : Int32).toUInt32 &&& Int32.toUInt32 31)).toInt32)) + ((((((((y - (((y.toUInt32 >>> ((1 : Int32).toUInt32 &&& Int32.toUInt32 31)).toInt32) &&& 1431655765)) &&& 858993459) + ((((y - (((y.toUInt32 >>> ((1 : Int32).toUInt32 &&& Int32.toUInt32 31)).toInt32) &&& 1431655765)).toUInt32 >>> ((2 : Int32).toUInt32 &&& Int32.toUInt32 31)).toInt32) &&& 858993459)) + (((((y - (((y.toUInt32 >>> ((1 : Int32).toUInt32 &&& Int32.toUInt32 31)).toInt32) &&& 1431655765)) &&& 858993459) + ((((y - (((y.toUInt32 >>> ((1 : Int32).toUInt32 &&& Int32.toUInt32 31)).toInt32) &&& 1431655765)).toUInt32 >>> ((2 : Int32).toUInt32 &&& Int32.toUInt32 31)).toInt32) &&& 858993459)).toUInt32 >>> ((4 : Int32).toUInt32 &&& Int32.toUInt32 31)).toInt32)) &&& 252645135) + (((((((y - (((y.toUInt32 >>> ((1 : Int32).toUInt32 &&& Int32.toUInt32 31)).toInt32) &&& 1431655765)) &&& 858993459) + ((((y - (((y.toUInt32 >>> ((1 : Int32).toUInt32 &&& Int32.toUInt32 31)).toInt32) &&& 1431655765)).toUInt32 >>> ((2 : Int32).toUInt32 &&& Int32.toUInt32 31)).toInt32) &&& 858993459)) + (((((y - (((y.toUInt32 >>> ((1 : Int32).toUInt32 &&& Int32.toUInt32 31)).toInt32) &&& 1431655765)) &&& 858993459) + ((((y - (((y.toUInt32 >>> ((1 : Int32).toUInt32 &&& Int32.toUInt32 31)).toInt32) &&& 1431655765)).toUInt32 >>> ((2 : Int32).toUInt32 &&& Int32.toUInt32 31)).toInt32) &&& 858993459)).toUInt32 >>> ((4 : Int32).toUInt32 &&& Int32.toUInt32 31)).toInt32)) &&& 252645135).toUInt32 >>> ((8 : Int32).toUInt32 &&& Int32.toUInt32 31)).toInt32)).toUInt32 >>> ((16 : Int32).toUInt32 &&& Int32.toUInt32 31)).toInt32))], M)) rfl rfl rfl ?_
  refine ps_st (S' := (48, [(0, .int (((((((y - (((y.toUInt32 >>> ((1 : Int32).toUInt32 &&& Int32.toUInt32 31)).toInt32) &&& 1431655765)) &&& 858993459) + ((((y - (((y.toUInt32 >>> ((1 : Int32).toUInt32 &&& Int32.toUInt32 31)).toInt32) &&& 1431655765)).toUInt32 >>> ((2 : Int32).toUInt32 &&& Int32.toUInt32 31)).toInt32) &&& 858993459)) + (((((y - (((y.toUInt32 >>> ((1 : Int32).toUInt32 &&& Int32.toUInt32 31)).toInt32) &&& 1431655765)) &&& 858993459) + ((((y - (((y.toUInt32 >>> ((1 : Int32).toUInt32 &&& Int32.toUInt32 31)).toInt32) &&& 1431655765)).toUInt32 >>> ((2 : Int32).toUInt32 &&& Int32.toUInt32 31)).toInt32) &&& 858993459)).toUInt32 >>> ((4 : Int32).toUInt32 &&& Int32.toUInt32 31)).toInt32)) &&& 252645135) + (((((((y - (((y.toUInt32 >>> ((1 : Int32).toUInt32 &&& Int32.toUInt32 31)).toInt32) &&& 1431655765)) &&& 858993459) + ((((y - (((y.toUInt32 >>> ((1 : Int32).toUInt32 &&& Int32.toUInt32 31)).toInt32) &&& 1431655765)).toUInt32 >>> ((2 : Int32).toUInt32 &&& Int32.toUInt32 31)).toInt32) &&& 858993459)) + (((((y - (((y.toUInt32 >>> ((1 : Int32).toUInt32 &&& Int32.toUInt32 31)).toInt32) &&& 1431655765)) &&& 858993459) + ((((y - (((y.toUInt32 >>> ((1 : Int32).toUInt32 &&& Int32.toUInt32 31)).toInt32) &&& 1431655765)).toUInt32 >>> ((2 : Int32).toUInt32 &&& Int32.toUInt32 31)).toInt32) &&& 858993459)).toUInt32 >>> ((4 : Int32).toUInt32 &&& Int32.toUInt32 31)).toInt32)) &&& 252645135).toUInt32 >>> ((8 : Int32).toUInt32 &&& Int32.toUInt32 31)).toInt32)) + ((((((((y - (((y.toUInt32 >>> ((1 : Int32).toUInt32 &&& Int32.toUInt32 31)).toInt32) &&& 1431655765)) &&& 858993459) + ((((y - (((y.toUInt32 >>> ((1 : Int32).toUInt32 &&& Int32.toUInt32 31)).toInt32) &&& 1431655765)).toUInt32 >>> ((2 : Int32).toUInt32 &&& Int32.toUInt32 31)).toInt32) &&& 858993459)) + (((((y - (((y.toUInt32 >>> ((1 : Int32).toUInt32 &&& Int32.toUInt32 31)).toInt32) &&& 1431655765)) &&& 858993459) + ((((y - (((y.toUInt32 >>> ((1 : Int32).toUInt32 &&& Int32.toUInt32 31)).toInt32) &&& 1431655765)).toUInt32 >>> ((2 : Int32).toUInt32 &&& Int32.toUInt32 31)).toInt32) &&& 858993459)).toUInt32 >>> ((4 : Int32).toUInt32 &&& Int32.toUInt32 31)).toInt32)) &&& 252645135) + (((((((y - (((y.toUInt32 >>> ((1 : Int32).toUInt32 &&& Int32.toUInt32 31)).toInt32) &&& 1431655765)) &&& 858993459) + ((((y - (((y.toUInt32 >>> ((1 : Int32).toUInt32 &&& Int32.toUInt32 31)).toInt32) &&& 1431655765)).toUInt32 >>> ((2 : Int32).toUInt32 &&& Int32.toUInt32 31)).toInt32) &&& 858993459)) + (((((y - (((y.toUInt32 >>> ((1 : Int32).toUInt32 &&& Int32.toUInt32 31)).toInt32) &&& 1431655765)) &&& 858993459) + ((((y - (((y.toUInt32 >>> ((1 : Int32).toUInt32 &&& Int32.toUInt32 31)).toInt32) &&& 1431655765)).toUInt32 >>> ((2 : Int32).toUInt32 &&& Int32.toUInt32 31)).toInt32) &&& 858993459)).toUInt32 >>> ((4 : Int32).toUInt32 &&& Int32.toUInt32 31)).toInt32)) &&& 252645135).toUInt32 >>> ((8 : Int32).toUInt32 &&& Int32.toUInt32 31)).toInt32)).toUInt32 >>> ((16 : Int32).toUInt32 &&& Int32.toUInt32 31)).toInt32)))], [], M)) rfl rfl rfl ?_
  refine ps_st (S' := (49, [(0, .int (((((((y - (((y.toUInt32 >>> ((1 : Int32).toUInt32 &&& Int32.toUInt32 31)).toInt32) &&& 1431655765)) &&& 858993459) + ((((y - (((y.toUInt32 >>> ((1 : Int32).toUInt32 &&& Int32.toUInt32 31)).toInt32) &&& 1431655765)).toUInt32 >>> ((2 : Int32).toUInt32 &&& Int32.toUInt32 31)).toInt32) &&& 858993459)) + (((((y - (((y.toUInt32 >>> ((1 : Int32).toUInt32 &&& Int32.toUInt32 31)).toInt32) &&& 1431655765)) &&& 858993459) + ((((y - (((y.toUInt32 >>> ((1 : Int32).toUInt32 &&& Int32.toUInt32 31)).toInt32) &&& 1431655765)).toUInt32 >>> ((2 : Int32).toUInt32 &&& Int32.toUInt32 31)).toInt32) &&& 858993459)).toUInt32 >>> ((4 : Int32).toUInt32 &&& Int32.toUInt32 31)).toInt32)) &&& 252645135) + (((((((y - (((y.toUInt32 >>> ((1 : Int32).toUInt32 &&& Int32.toUInt32 31)).toInt32) &&& 1431655765)) &&& 858993459) + ((((y - (((y.toUInt32 >>> ((1 : Int32).toUInt32 &&& Int32.toUInt32 31)).toInt32) &&& 1431655765)).toUInt32 >>> ((2 : Int32).toUInt32 &&& Int32.toUInt32 31)).toInt32) &&& 858993459)) + (((((y - (((y.toUInt32 >>> ((1 : Int32).toUInt32 &&& Int32.toUInt32 31)).toInt32) &&& 1431655765)) &&& 858993459) + ((((y - (((y.toUInt32 >>> ((1 : Int32).toUInt32 &&& Int32.toUInt32 31)).toInt32) &&& 1431655765)).toUInt32 >>> ((2 : Int32).toUInt32 &&& Int32.toUInt32 31)).toInt32) &&& 858993459)).toUInt32 >>> ((4 : Int32).toUInt32 &&& Int32.toUInt32 31)).toInt32)) &&& 252645135).toUInt32 >>> ((8 : Int32).toUInt32 &&& Int32.toUInt32 31)).toInt32)) + ((((((((y - (((y.toUInt32 >>> ((1 : Int32).toUInt32 &&& Int32.toUInt32 31)).toInt32) &&& 1431655765)) &&& 858993459) + ((((y - (((y.toUInt32 >>> ((1 : Int32).toUInt32 &&& Int32.toUInt32 31)).toInt32) &&& 1431655765)).toUInt32 >>> ((2 : Int32).toUInt32 &&& Int32.toUInt32 31)).toInt32) &&& 858993459)) + (((((y - (((y.toUInt32 >>> ((1 : Int32).toUInt32 &&& Int32.toUInt32 31)).toInt32) &&& 1431655765)) &&& 858993459) + ((((y - (((y.toUInt32 >>> ((1 : Int32).toUInt32 &&& Int32.toUInt32 31)).toInt32) &&& 1431655765)).toUInt32 >>> ((2 : Int32).toUInt32 &&& Int32.toUInt32 31)).toInt32) &&& 858993459)).toUInt32 >>> ((4 : Int32).toUInt32 &&& Int32.toUInt32 31)).toInt32)) &&& 252645135) + (((((((y - (((y.toUInt32 >>> ((1 : Int32).toUInt32 &&& Int32.toUInt32 31)).toInt32) &&& 1431655765)) &&& 858993459) + ((((y - (((y.toUInt32 >>> ((1 : Int32).toUInt32 &&& Int32.toUInt32 31)).toInt32) &&& 1431655765)).toUInt32 >>> ((2 : Int32).toUInt32 &&& Int32.toUInt32 31)).toInt32) &&& 858993459)) + (((((y - (((y.toUInt32 >>> ((1 : Int32).toUInt32 &&& Int32.toUInt32 31)).toInt32) &&& 1431655765)) &&& 858993459) + ((((y - (((y.toUInt32 >>> ((1 : Int32).toUInt32 &&& Int32.toUInt32 31)).toInt32) &&& 1431655765)).toUInt32 >>> ((2 : Int32).toUInt32 &&& Int32.toUInt32 31)).toInt32) &&& 858993459)).toUInt32 >>> ((4 : Int32).toUInt32 &&& Int32.toUInt32 31)).toInt32)) &&& 252645135).toUInt32 >>> ((8 : Int32).toUInt32 &&& Int32.toUInt32 31)).toInt32)).toUInt32 >>> ((16 : Int32).toUInt32 &&& Int32.toUInt32 31)).toInt32)))], [.int (((((((y - (((y.toUInt32 >>> ((1 : Int32).toUInt32 &&& Int32.toUInt32 31)).toInt32) &&& 1431655765)) &&& 858993459) + ((((y - (((y.toUInt32 >>> ((1 : Int32).toUInt32 &&& Int32.toUInt32 31)).toInt32) &&& 1431655765)).toUInt32 >>> ((2 : Int32).toUInt32 &&& Int32.toUInt32 31)).toInt32) &&& 858993459)) + (((((y - (((y.toUInt32 >>> ((1 : Int32).toUInt32 &&& Int32.toUInt32 31)).toInt32) &&& 1431655765)) &&& 858993459) + ((((y - (((y.toUInt32 >>> ((1 : Int32).toUInt32 &&& Int32.toUInt32 31)).toInt32) &&& 1431655765)).toUInt32 >>> ((2 : Int32).toUInt32 &&& Int32.toUInt32 31)).toInt32) &&& 858993459)).toUInt32 >>> ((4 : Int32).toUInt32 &&& Int32.toUInt32 31)).toInt32)) &&& 252645135) + (((((((y - (((y.toUInt32 >>> ((1 : Int32).toUInt32 &&& Int32.toUInt32 31)).toInt32) &&& 1431655765)) &&& 858993459) + ((((y - (((y.toUInt32 >>> ((1 : Int32).toUInt32 &&& Int32.toUInt32 31)).toInt32) &&& 1431655765)).toUInt32 >>> ((2 : Int32).toUInt32 &&& Int32.toUInt32 31)).toInt32) &&& 858993459)) + (((((y - (((y.toUInt32 >>> ((1 : Int32).toUInt32 &&& Int32.toUInt32 31)).toInt32) &&& 1431655765)) &&& 858993459) + ((((y - (((y.toUInt32 >>> ((1 : Int32).toUInt32 &&& Int32.toUInt32 31)).toInt32) &&& 1431655765)).toUInt32 >>> ((2 : Int32).toUInt32 &&& Int32.toUInt32 31)).toInt32) &&& 858993459)).toUInt32 >>> ((4 : Int32).toUInt32 &&& Int32.toUInt32 31)).toInt32)) &&& 252645135).toUInt32 >>> ((8 : Int32).toUInt32 &&& Int32.toUInt32 31)).toInt32)) + ((((((((y - (((y.toUInt32 >>> ((1 : Int32).toUInt32 &&& Int32.toUInt32 31)).toInt32) &&& 1431655765)) &&& 858993459) + ((((y - (((y.toUInt32 >>> ((1 : Int32).toUInt32 &&& Int32.toUInt32 31)).toInt32) &&& 1431655765)).toUInt32 >>> ((2 : Int32).toUInt32 &&& Int32.toUInt32 31)).toInt32) &&& 858993459)) + (((((y - (((y.toUInt32 >>> ((1 : Int32).toUInt32 &&& Int32.toUInt32 31)).toInt32) &&& 1431655765)) &&& 858993459) + ((((y - (((y.toUInt32 >>> ((1 : Int32).toUInt32 &&& Int32.toUInt32 31)).toInt32) &&& 1431655765)).toUInt32 >>> ((2 : Int32).toUInt32 &&& Int32.toUInt32 31)).toInt32) &&& 858993459)).toUInt32 >>> ((4 : Int32).toUInt32 &&& Int32.toUInt32 31)).toInt32)) &&& 252645135) + (((((((y - (((y.toUInt32 >>> ((1 : Int32).toUInt32 &&& Int32.toUInt32 31)).toInt32) &&& 1431655765)) &&& 858993459) + ((((y - (((y.toUInt32 >>> ((1 : Int32).toUInt32 &&& Int32.toUInt32 31)).toInt32) &&& 1431655765)).toUInt32 >>> ((2 : Int32).toUInt32 &&& Int32.toUInt32 31)).toInt32) &&& 858993459)) + (((((y - (((y.toUInt32 >>> ((1 : Int32).toUInt32 &&& Int32.toUInt32 31)).toInt32) &&& 1431655765)) &&& 858993459) + ((((y - (((y.toUInt32 >>> ((1 : Int32).toUInt32 &&& Int32.toUInt32 31)).toInt32) &&& 1431655765)).toUInt32 >>> ((2 : Int32).toUInt32 &&& Int32.toUInt32 31)).toInt32) &&& 858993459)).toUInt32 >>> ((4 : Int32).toUInt32 &&& Int32.toUInt32 31)).toInt32)) &&& 252645135).toUInt32 >>> ((8 : Int32).toUInt32 &&& Int32.toUInt32 31)).toInt32)).toUInt32 >>> ((16 : Int32).toUInt32 &&& Int32.toUInt32 31)).toInt32))], M)) rfl rfl rfl ?_
  refine ps_st (S' := (51, [(0, .int (((((((y - (((y.toUInt32 >>> ((1 : Int32).toUInt32 &&& Int32.toUInt32 31)).toInt32) &&& 1431655765)) &&& 858993459) + ((((y - (((y.toUInt32 >>> ((1 : Int32).toUInt32 &&& Int32.toUInt32 31)).toInt32) &&& 1431655765)).toUInt32 >>> ((2 : Int32).toUInt32 &&& Int32.toUInt32 31)).toInt32) &&& 858993459)) + (((((y - (((y.toUInt32 >>> ((1 : Int32).toUInt32 &&& Int32.toUInt32 31)).toInt32) &&& 1431655765)) &&& 858993459) + ((((y - (((y.toUInt32 >>> ((1 : Int32).toUInt32 &&& Int32.toUInt32 31)).toInt32) &&& 1431655765)).toUInt32 >>> ((2 : Int32).toUInt32 &&& Int32.toUInt32 31)).toInt32) &&& 858993459)).toUInt32 >>> ((4 : Int32).toUInt32 &&& Int32.toUInt32 31)).toInt32)) &&& 252645135) + (((((((y - (((y.toUInt32 >>> ((1 : Int32).toUInt32 &&& Int32.toUInt32 31)).toInt32) &&& 1431655765)) &&& 858993459) + ((((y - (((y.toUInt32 >>> ((1 : Int32).toUInt32 &&& Int32.toUInt32 31)).toInt32) &&& 1431655765)).toUInt32 >>> ((2 : Int32).toUInt32 &&& Int32.toUInt32 31)).toInt32) &&& 858993459)) + (((((y - (((y.toUInt32 >>> ((1 : Int32).toUInt32 &&& Int32.toUInt32 31)).toInt32) &&& 1431655765)) &&& 858993459) + ((((y - (((y.toUInt32 >>> ((1 : Int32).toUInt32 &&& Int32.toUInt32 31)).toInt32) &&& 1431655765)).toUInt32 >>> ((2 : Int32).toUInt32 &&& Int32.toUInt32 31)).toInt32) &&& 858993459)).toUInt32 >>> ((4 : Int32).toUInt32 &&& Int32.toUInt32 31)).toInt32)) &&& 252645135).toUInt32 >>> ((8 : Int32).toUInt32 &&& Int32.toUInt32 31)).toInt32)) + ((((((((y - (((y.toUInt32 >>> ((1 : Int32).toUInt32 &&& Int32.toUInt32 31)).toInt32) &&& 1431655765)) &&& 858993459) + ((((y - (((y.toUInt32 >>> ((1 : Int32).toUInt32 &&& Int32.toUInt32 31)).toInt32) &&& 1431655765)).toUInt32 >>> ((2 : Int32).toUInt32 &&& Int32.toUInt32 31)).toInt32) &&& 858993459)) + (((((y - (((y.toUInt32 >>> ((1 : Int32).toUInt32 &&& Int32.toUInt32 31)).toInt32) &&& 1431655765)) &&& 858993459) + ((((y - (((y.toUInt32 >>> ((1 : Int32).toUInt32 &&& Int32.toUInt32 31)).toInt32) &&& 1431655765)).toUInt32 >>> ((2 : Int32).toUInt32 &&& Int32.toUInt32 31)).toInt32) &&& 858993459)).toUInt32 >>> ((4 : Int32).toUInt32 &&& Int32.toUInt32 31)).toInt32)) &&& 252645135) + (((((((y - (((y.toUInt32 >>> ((1 : Int32).toUInt32 &&& Int32.toUInt32 31)).toInt32) &&& 1431655765)) &&& 858993459) + ((((y - (((y.toUInt32 >>> ((1 : Int32).toUInt32 &&& Int32.toUInt32 31)).toInt32) &&& 1431655765)).toUInt32 >>> ((2 : Int32).toUInt32 &&& Int32.toUInt32 31)).toInt32) &&& 858993459)) + (((((y - (((y.toUInt32 >>> ((1 : Int32).toUInt32 &&& Int32.toUInt32 31)).toInt32) &&& 1431655765)) &&& 858993459) + ((((y - (((y.toUInt32 >>> ((1 : Int32).toUInt32 &&& Int32.toUInt32 31)).toInt32) &&& 1431655765)).toUInt32 >>> ((2 : Int32).toUInt32 &&& Int32.toUInt32 31)).toInt32) &&& 858993459)).toUInt32 >>> ((4 : Int32).toUInt32 &&& Int32.toUInt32 31)).toInt32)) &&& 252645135).toUInt32 >>> ((8 : Int32).toUInt32 &&& Int32.toUInt32 31)).toInt32)).toUInt32 >>> ((16 : Int32).toUInt32 &&& Int32.toUInt32 31)).toInt32)))], [.int 63, .int (((((((y - (((y.toUInt32 >>> ((1 : Int32).toUInt32 &&& Int32.toUInt32 31)).toInt32) &&& 1431655765)) &&& 858993459) + ((((y - (((y.toUInt32 >>> ((1 : Int32).toUInt32 &&& Int32.toUInt32 31)).toInt32) &&& 1431655765)).toUInt32 >>> ((2 : Int32).toUInt32 &&& Int32.toUInt32 31)).toInt32) &&& 858993459)) + (((((y - (((y.toUInt32 >>> ((1 : Int32).toUInt32 &&& Int32.toUInt32 31)).toInt32) &&& 1431655765)) &&& 858993459) + ((((y - (((y.toUInt32 >>> ((1 : Int32).toUInt32 &&& Int32.toUInt32 31)).toInt32) &&& 1431655765)).toUInt32 >>> ((2 : Int32).toUInt32 &&& Int32.toUInt32 31)).toInt32) &&& 858993459)).toUInt32 >>> ((4 : Int32).toUInt32 &&& Int32.toUInt32 31)).toInt32)) &&& 252645135) + (((((((y - (((y.toUInt32 >>> ((1 : Int32).toUInt32 &&& Int32.toUInt32 31)).toInt32) &&& 1431655765)) &&& 858993459) + ((((y - (((y.toUInt32 >>> ((1 : Int32).toUInt32 &&& Int32.toUInt32 31)).toInt32) &&& 1431655765)).toUInt32 >>> ((2 : Int32).toUInt32 &&& Int32.toUInt32 31)).toInt32) &&& 858993459)) + (((((y - (((y.toUInt32 >>> ((1 : Int32).toUInt32 &&& Int32.toUInt32 31)).toInt32) &&& 1431655765)) &&& 858993459) + ((((y - (((y.toUInt32 >>> ((1 : Int32).toUInt32 &&& Int32.toUInt32 31)).toInt32) &&& 1431655765)).toUInt32 >>> ((2 : Int32).toUInt32 &&& Int32.toUInt32 31)).toInt32) &&& 858993459)).toUInt32 >>> ((4 : Int32).toUInt32 &&& Int32.toUInt32 31)).toInt32)) &&& 252645135).toUInt32 >>> ((8 : Int32).toUInt32 &&& Int32.toUInt32 31)).toInt32)) + ((((((((y - (((y.toUInt32 >>> ((1 : Int32).toUInt32 &&& Int32.toUInt32 31)).toInt32) &&& 1431655765)) &&& 858993459) + ((((y - (((y.toUInt32 >>> ((1 : Int32).toUInt32 &&& Int32.toUInt32 31)).toInt32) &&& 1431655765)).toUInt32 >>> ((2 : Int32).toUInt32 &&& Int32.toUInt32 31)).toInt32) &&& 858993459)) + (((((y - (((y.toUInt32 >>> ((1 : Int32).toUInt32 &&& Int32.toUInt32 31)).toInt32) &&& 1431655765)) &&& 858993459) + ((((y - (((y.toUInt32 >>> ((1 : Int32).toUInt32 &&& Int32.toUInt32 31)).toInt32) &&& 1431655765)).toUInt32 >>> ((2 : Int32).toUInt32 &&& Int32.toUInt32 31)).toInt32) &&& 858993459)).toUInt32 >>> ((4 : Int32).toUInt32 &&& Int32.toUInt32 31)).toInt32)) &&& 252645135) + (((((((y - (((y.toUInt32 >>> ((1 : Int32).toUInt32 &&& Int32.toUInt32 31)).toInt32) &&& 1431655765)) &&& 858993459) + ((((y - (((y.toUInt32 >>> ((1 : Int32).toUInt32 &&& Int32.toUInt32 31)).toInt32) &&& 1431655765)).toUInt32 >>> ((2 : Int32).toUInt32 &&& Int32.toUInt32 31)).toInt32) &&& 858993459)) + (((((y - (((y.toUInt32 >>> ((1 : Int32).toUInt32 &&& Int32.toUInt32 31)).toInt32) &&& 1431655765)) &&& 858993459) + ((((y - (((y.toUInt32 >>> ((1 : Int32).toUInt32 &&& Int32.toUInt32 31)).toInt32) &&& 1431655765)).toUInt32 >>> ((2 : Int32).toUInt32 &&& Int32.toUInt32 31)).toInt32) &&& 858993459)).toUInt32 >>> ((4 : Int32).toUInt32 &&& Int32.toUInt32 31)).toInt32)) &&& 252645135).toUInt32 >>> ((8 : Int32).toUInt32 &&& Int32.toUInt32 31)).toInt32)).toUInt32 >>> ((16 : Int32).toUInt32 &&& Int32.toUInt32 31)).toInt32))], M)) rfl rfl rfl ?_
  refine ps_st (S' := (52, [(0, .int (((((((y - (((y.toUInt32 >>> ((1 : Int32).toUInt32 &&& Int32.toUInt32 31)).toInt32) &&& 1431655765)) &&& 858993459) + ((((y - (((y.toUInt32 >>> ((1 : Int32).toUInt32 &&& Int32.toUInt32 31)).toInt32) &&& 1431655765)).toUInt32 >>> ((2 : Int32).toUInt32 &&& Int32.toUInt32 31)).toInt32) &&& 858993459)) + (((((y - (((y.toUInt32 >>> ((1 : Int32).toUInt32 &&& Int32.toUInt32 31)).toInt32) &&& 1431655765)) &&& 858993459) + ((((y - (((y.toUInt32 >>> ((1 : Int32).toUInt32 &&& Int32.toUInt32 31)).toInt32) &&& 1431655765)).toUInt32 >>> ((2 : Int32).toUInt32 &&& Int32.toUInt32 31)).toInt32) &&& 858993459)).toUInt32 >>> ((4 : Int32).toUInt32 &&& Int32.toUInt32 31)).toInt32)) &&& 252645135) + (((((((y - (((y.toUInt32 >>> ((1 : Int32).toUInt32 &&& Int32.toUInt32 31)).toInt32) &&& 1431655765)) &&& 858993459) + ((((y - (((y.toUInt32 >>> ((1 : Int32).toUInt32 &&& Int32.toUInt32 31)).toInt32) &&& 1431655765)).toUInt32 >>> ((2 : Int32).toUInt32 &&& Int32.toUInt32 31)).toInt32) &&& 858993459)) + (((((y - (((y.toUInt32 >>> ((1 : Int32).toUInt32 &&& Int32.toUInt32 31)).toInt32) &&& 1431655765)) &&& 858993459) + ((((y - (((y.toUInt32 >>> ((1 : Int32).toUInt32 &&& Int32.toUInt32 31)).toInt32) &&& 1431655765)).toUInt32 >>> ((2 : Int32).toUInt32 &&& Int32.toUInt32 31)).toInt32) &&& 858993459)).toUInt32 >>> ((4 : Int32).toUInt32 &&& Int32.toUInt32 31)).toInt32)) &&& 252645135).toUInt32 >>> ((8 : Int32).toUInt32 &&& Int32.toUInt32 31)).toInt32)) + ((((((((y - (((y.toUInt32 >>> ((1 : Int32).toUInt32 &&& Int32.toUInt32 31)).toInt32) &&& 1431655765)) &&& 858993459) + ((((y - (((y.toUInt32 >>> ((1 : Int32).toUInt32 &&& Int32.toUInt32 31)).toInt32) &&& 1431655765)).toUInt32 >>> ((2 : Int32).toUInt32 &&& Int32.toUInt32 31)).toInt32) &&& 858993459)) + (((((y - (((y.toUInt32 >>> ((1 : Int32).toUInt32 &&& Int32.toUInt32 31)).toInt32) &&& 1431655765)) &&& 858993459) + ((((y - (((y.toUInt32 >>> ((1 : Int32).toUInt32 &&& Int32.toUInt32 31)).toInt32) &&& 1431655765)).toUInt32 >>> ((2 : Int32).toUInt32 &&& Int32.toUInt32 31)).toInt32) &&& 858993459)).toUInt32 >>> ((4 : Int32).toUInt32 &&& Int32.toUInt32 31)).toInt32)) &&& 252645135) + (((((((y - (((y.toUInt32 >>> ((1 : Int32).toUInt32 &&& Int32.toUInt32 31)).toInt32) &&& 1431655765)) &&& 858993459) + ((((y - (((y.toUInt32 >>> ((1 : Int32).toUInt32 &&& Int32.toUInt32 31)).toInt32) &&& 1431655765)).toUInt32 >>> ((2 : Int32).toUInt32 &&& Int32.toUInt32 31)).toInt32) &&& 858993459)) + (((((y - (((y.toUInt32 >>> ((1 : Int32).toUInt32 &&& Int32.toUInt32 31)).toInt32) &&& 1431655765)) &&& 858993459) + ((((y - (((y.toUInt32 >>> ((1 : Int32).toUInt32 &&& Int32.toUInt32 31)).toInt32) &&& 1431655765)).toUInt32 >>> ((2 : Int32).toUInt32 &&& Int32.toUInt32 31)).toInt32) &&& 858993459)).toUInt32 >>> ((4 : Int32).toUInt32 &&& Int32.toUInt32 31)).toInt32)) &&& 252645135).toUInt32 >>> ((8 : Int32).toUInt32 &&& Int32.toUInt32 31)).toInt32)).toUInt32 >>> ((16 : Int32).toUInt32 &&& Int32.toUInt32 31)).toInt32)))], [.int ((((((((y - (((y.toUInt32 >>> ((1 : Int32).toUInt32 &&& Int32.toUInt32 31)).toInt32) &&& 1431655765)) &&& 858993459) + ((((y - (((y.toUInt32 >>> ((1 : Int32).toUInt32 &&& Int32.toUInt32 31)).toInt32) &&& 1431655765)).toUInt32 >>> ((2 : Int32).toUInt32 &&& Int32.toUInt32 31)).toInt32) &&& 858993459)) + (((((y - (((y.toUInt32 >>> ((1 : Int32).toUInt32 &&& Int32.toUInt32 31)).toInt32) &&& 1431655765)) &&& 858993459) + ((((y - (((y.toUInt32 >>> ((1 : Int32).toUInt32 &&& Int32.toUInt32 31)).toInt32) &&& 1431655765)).toUInt32 >>> ((2 : Int32).toUInt32 &&& Int32.toUInt32 31)).toInt32) &&& 858993459)).toUInt32 >>> ((4 : Int32).toUInt32 &&& Int32.toUInt32 31)).toInt32)) &&& 252645135) + (((((((y - (((y.toUInt32 >>> ((1 : Int32).toUInt32 &&& Int32.toUInt32 31)).toInt32) &&& 1431655765)) &&& 858993459) + ((((y - (((y.toUInt32 >>> ((1 : Int32).toUInt32 &&& Int32.toUInt32 31)).toInt32) &&& 1431655765)).toUInt32 >>> ((2 : Int32).toUInt32 &&& Int32.toUInt32 31)).toInt32) &&& 858993459)) + (((((y - (((y.toUInt32 >>> ((1 : Int32).toUInt32 &&& Int32.toUInt32 31)).toInt32) &&& 1431655765)) &&& 858993459) + ((((y - (((y.toUInt32 >>> ((1 : Int32).toUInt32 &&& Int32.toUInt32 31)).toInt32) &&& 1431655765)).toUInt32 >>> ((2 : Int32).toUInt32 &&& Int32.toUInt32 31)).toInt32) &&& 858993459)).toUInt32 >>> ((4 : Int32).toUInt32 &&& Int32.toUInt32 31)).toInt32)) &&& 252645135).toUInt32 >>> ((8 : Int32).toUInt32 &&& Int32.toUInt32 31)).toInt32)) + ((((((((y - (((y.toUInt32 >>> ((1 : Int32).toUInt32 &&& Int32.toUInt32 31)).toInt32) &&& 1431655765)) &&& 858993459) + ((((y - (((y.toUInt32 >>> ((1 : Int32).toUInt32 &&& Int32.toUInt32 31)).toInt32) &&& 1431655765)).toUInt32 >>> ((2 : Int32).toUInt32 &&& Int32.toUInt32 31)).toInt32) &&& 858993459)) + (((((y - (((y.toUInt32 >>> ((1 : Int32).toUInt32 &&& Int32.toUInt32 31)).toInt32) &&& 1431655765)) &&& 858993459) + ((((y - (((y.toUInt32 >>> ((1 : Int32).toUInt32 &&& Int32.toUInt32 31)).toInt32) &&& 1431655765)).toUInt32 >>> ((2 : Int32).toUInt32 &&& Int32.toUInt32 31)).toInt32) &&& 858993459)).toUInt32 >>> ((4 : Int32).toUInt32 &&& Int32.toUInt32 31)).toInt32)) &&& 252645135) + (((((((y - (((y.toUInt32 >>> ((1 : Int32).toUInt32 &&& Int32.toUInt32 31)).toInt32) &&& 1431655765)) &&& 858993459) + ((((y - (((y.toUInt32 >>> ((1 : Int32).toUInt32 &&& Int32.toUInt32 31)).toInt32) &&& 1431655765)).toUInt32 >>> ((2 : Int32).toUInt32 &&& Int32.toUInt32 31)).toInt32) &&& 858993459)) + (((((y - (((y.toUInt32 >>> ((1 : Int32).toUInt32 &&& Int32.toUInt32 31)).toInt32) &&& 1431655765)) &&& 858993459) + ((((y - (((y.toUInt32 >>> ((1 : Int32).toUInt32 &&& Int32.toUInt32 31)).toInt32) &&& 1431655765)).toUInt32 >>> ((2 : Int32).toUInt32 &&& Int32.toUInt32 31)).toInt32) &&& 858993459)).toUInt32 >>> ((4 : Int32).toUInt32 &&& Int32.toUInt32 31)).toInt32)) &&& 252645135).toUInt32 >>> ((8 : Int32).toUInt32 &&& Int32.toUInt32 31)).toInt32)).toUInt32 >>> ((16 : Int32).toUInt32 &&& Int32.toUInt32 31)).toInt32)) &&& 63)], M)) rfl rfl rfl ?_
  exact ps_reti rfl (⟨_, rfl, rfl⟩)
set_option maxHeartbeats 1000000 in
theorem dk_codeAttributesHold {g : xe_G} {M : mi_H} {f : Nat → Int32} {n N q : Nat} {E : List (Nat × Nat)} {ac c b da vd fr mr fa ic mj na pa : Nat} {mi ru wa k1 k2 k3 k4 k5 k6 k7 : Int32} {s p1 e : Nat} (h_ac : M.1 ac = some (ob 0 [.ref c, .ref b, .ref q, .ref vd, .int (nI s)])) (h_b : M.1 b = some (ob 1 [.ref da])) (h_da : M.1 da = some (ar .byte n f)) (h_c : M.1 c = some (ob 3 [.ref b, .ref q, .int mi, .int (nI mj), .int (nI fa), .int (nI ic), .ref fr, .ref mr, .int (nI na), .int (nI pa), .int k1, .int k2, .int k3, .int k4, .int k5, .int k6, .int k7])) (h_vd : M.1 vd = some (ob 10 [.int ru, .int wa])) (hn : n ≤ 65540) (hmj : mj < 65536) (hs : s < 2048) (hin : p1 + 2 ≤ e ∧ e ≤ n) (hat : s_atE f e (by2 f p1) (p1 + 2) = some e) (hV : PV g f n N E q M) : pt (mT g) 28 [.ref ac, .int (nI p1)] M (fun v M' => (∃ (e9 : Nat × Nat), (caS f n E mj (by2 f p1) (p1 + 2) s = .inl e9) ∧ v = some (.int 0) ∧ M'.1 vd = some (ob 10 [.int (nI e9.1), .int (nI e9.2)]) ∧ fm [ac, vd] M M') ∨ (∃ (s' : Nat), (caS f n E mj (by2 f p1) (p1 + 2) s = .inr s') ∧ (s' < 2048) ∧ v = some (.int 1) ∧ M'.1 ac = some (ob 0 [.ref c, .ref b, .ref q, .ref vd, .int (nI s')]) ∧ M'.1 vd = some (ob 10 [.int ru, .int wa]) ∧ fm [ac, vd] M M')) := by
  refine pt_in (b := mb_28 g) rfl (fun kf => ?_)
  show pl (mT g) kf (mb_28 g).2 (0, [(0, .ref ac), (1, .int (nI p1))], [], M) _
  have hF : fm [ac, vd] M M := fm.rf
  have LL : ∀ (kf : Nat), (∀ (i p s2 : Nat) (M1 : mi_H), (M1.1 ac = some (ob 0 [.ref c, .ref b, .ref q, .ref vd, .int (nI s2)])) → (M1.1 b = some (ob 1 [.ref da])) → (M1.1 da = some (ar .byte n f)) → (M1.1 c = some (ob 3 [.ref b, .ref q, .int mi, .int (nI mj), .int (nI fa), .int (nI ic), .ref fr, .ref mr, .int (nI na), .int (nI pa), .int k1, .int k2, .int k3, .int k4, .int k5, .int k6, .int k7])) → (M1.1 vd = some (ob 10 [.int ru, .int wa])) → (PV g f n N E q M1) → (fm [ac, vd] M M1) → (i ≤ by2 f p1) → (s2 < 2048) → (s_atE f e (by2 f p1 - i) p = some e) → (caS f n E mj (by2 f p1 - i) p s2 = caS f n E mj (by2 f p1) (p1 + 2) s) →  pl (mT g) kf (mb_28 g).2 (16, [(0, .ref ac), (2, .int (nI (by2 f p1))), (3, .int (nI p)), (4, .int (nI i))], [], M1) (fun v M' => (∃ (e9 : Nat × Nat), (caS f n E mj (by2 f p1) (p1 + 2) s = .inl e9) ∧ v = some (.int 0) ∧ M'.1 vd = some (ob 10 [.int (nI e9.1), .int (nI e9.2)]) ∧ fm [ac, vd] M M') ∨ (∃ (s' : Nat), (caS f n E mj (by2 f p1) (p1 + 2) s = .inr s') ∧ (s' < 2048) ∧ v = some (.int 1) ∧ M'.1 ac = some (ob 0 [.ref c, .ref b, .ref q, .ref vd, .int (nI s')]) ∧ M'.1 vd = some (ob 10 [.int ru, .int wa]) ∧ fm [ac, vd] M M'))) := by
    intro kf
    induction kf with
    | zero => exact (by intros; exact pl_0)
    | succ kf ih =>
      intro i p s2 M1 hl_ac hl_b hl_da hl_c hl_vd hV1 hF1 hi hl ha hs9
      have hu9 := by2_lt f p1
      refine ps_st1 (S' := (18, [(0, .ref ac), (2, .int (nI (by2 f p1))), (3, .int (nI p)), (4, .int (nI i))], [.int (nI i)], M1)) rfl rfl rfl ?_
      refine ps_st (S' := (19, [(0, .ref ac), (2, .int (nI (by2 f p1))), (3, .int (nI p)), (4, .int (nI i))], [.int (nI (by2 f p1)), .int (nI i)], M1)) rfl rfl rfl ?_
      refine ps_if2 (S1 := (93, [(0, .ref ac), (2, .int (nI (by2 f p1))), (3, .int (nI p)), (4, .int (nI i))], [], M1)) (S2 := (22, [(0, .ref ac), (2, .int (nI (by2 f p1))), (3, .int (nI p)), (4, .int (nI i))], [], M1)) rfl rfl rfl (fun c_19 => ?_) (fun c_19 => ?_)
      · have c_19 : (nI (by2 f p1)) ≤ (nI i) := of_decide_eq_true c_19
        have n_19 : by2 f p1 ≤ i := (le_nI (p := by2 f p1) (n := i) (Nat.lt_trans (by2_lt _ _) (by decide)) (by omega)).mp c_19
        refine ps_st (S' := (94, [(0, .ref ac), (2, .int (nI (by2 f p1))), (3, .int (nI p)), (4, .int (nI i))], [.int 1], M1)) rfl rfl rfl ?_
        exact ps_ret rfl rfl (Or.inr ⟨s2, by rw [← hs9, show by2 f p1 - i = 0 by omega]; rfl, hl, rfl, hl_ac, hl_vd, hF1⟩)
      · have c_19 : ¬ ((nI (by2 f p1)) ≤ (nI i)) := of_decide_eq_false c_19
        have n_19 : ¬ (by2 f p1 ≤ i) := fun h9 => c_19 ((le_nI (p := by2 f p1) (n := i) (Nat.lt_trans (by2_lt _ _) (by decide)) (by omega)).mpr h9)
        obtain ⟨hq5, hq6, hq7⟩ := s_atE_in (i := i) (p := p) ha (by omega)
        refine ps_st (S' := (23, [(0, .ref ac), (2, .int (nI (by2 f p1))), (3, .int (nI p)), (4, .int (nI i))], [.ref ac], M1)) rfl rfl rfl ?_
        refine ps_get (S' := (26, [(0, .ref ac), (2, .int (nI (by2 f p1))), (3, .int (nI p)), (4, .int (nI i))], [.ref c], M1)) rfl hl_ac rfl rfl ?_
        refine ps_get (S' := (29, [(0, .ref ac), (2, .int (nI (by2 f p1))), (3, .int (nI p)), (4, .int (nI i))], [.int (nI mj)], M1)) rfl hl_c rfl rfl ?_
        refine ps_st (S' := (31, [(0, .ref ac), (2, .int (nI (by2 f p1))), (3, .int (nI p)), (4, .int (nI i))], [.int 50, .int (nI mj)], M1)) rfl rfl rfl ?_
        refine ps_if2 (S1 := (58, [(0, .ref ac), (2, .int (nI (by2 f p1))), (3, .int (nI p)), (4, .int (nI i))], [], M1)) (S2 := (34, [(0, .ref ac), (2, .int (nI (by2 f p1))), (3, .int (nI p)), (4, .int (nI i))], [], M1)) rfl rfl rfl (fun c_31 => ?_) (fun c_31 => ?_)
        · have c_31 : (nI mj) < 50 := of_decide_eq_true c_31
          have n_31 : mj < 50 := (lt_nI (p := mj) (n := 50) (by omega) (by decide)).mp c_31
          refine ps_st (S' := (59, [(0, .ref ac), (2, .int (nI (by2 f p1))), (3, .int (nI p)), (4, .int (nI i))], [.int 0], M1)) rfl rfl rfl ?_
          refine ps_st (S' := (61, [(5, .int 0), (0, .ref ac), (2, .int (nI (by2 f p1))), (3, .int (nI p)), (4, .int (nI i))], [], M1)) rfl rfl rfl ?_
          refine ps_st (S' := (62, [(5, .int 0), (0, .ref ac), (2, .int (nI (by2 f p1))), (3, .int (nI p)), (4, .int (nI i))], [.ref ac], M1)) rfl rfl rfl ?_
          refine ps_st (S' := (63, [(5, .int 0), (0, .ref ac), (2, .int (nI (by2 f p1))), (3, .int (nI p)), (4, .int (nI i))], [.int (nI p), .ref ac], M1)) rfl rfl rfl ?_
          refine ps_st (S' := (65, [(5, .int 0), (0, .ref ac), (2, .int (nI (by2 f p1))), (3, .int (nI p)), (4, .int (nI i))], [.int 0, .int (nI p), .ref ac], M1)) rfl rfl rfl ?_
          refine ps_if (S1 := (72, [(5, .int 0), (0, .ref ac), (2, .int (nI (by2 f p1))), (3, .int (nI p)), (4, .int (nI i))], [.int (nI p), .ref ac], M1)) (S2 := (68, [(5, .int 0), (0, .ref ac), (2, .int (nI (by2 f p1))), (3, .int (nI p)), (4, .int (nI i))], [.int (nI p), .ref ac], M1)) rfl rfl rfl (fun c_65 => ?_) (fun c_65 => ?_)
          rotate_left
          · exact absurd (by decide) (of_decide_eq_false c_65)
          refine ps_st (S' := (73, [(0, .ref ac), (2, .int (nI (by2 f p1))), (3, .int (nI p)), (4, .int (nI i))], [.int 0, .int (nI p), .ref ac], M1)) rfl rfl rfl ?_
          have hk9 : smN4 f n E mj (by2 f p) = 0 := by
            unfold smN4
            first | ((repeat first | rw [if_pos (by omega)] | rw [if_neg (by omega)]) <;> first | rfl | omega) | ((repeat' split) <;> first | rfl | (exfalso; omega) | omega)
          refine pl_call (a := [.ref ac, .int (nI p), .int 0]) (rest := []) rfl rfl rfl (dk_isNew (f := f) (n := n) (N := N) (q := q) (E := E) (ac := ac) (c := c) (b := b) (da := da) (vd := vd) (fr := fr) (mr := mr) (fa := fa) (ic := ic) (mj := mj) (na := na) (pa := pa) (mi := mi) (ru := ru) (wa := wa) (k1 := k1) (k2 := k2) (k3 := k3) (k4 := k4) (k5 := k5) (k6 := k6) (k7 := k7) (s := s2) (k := 0) (p := p) hl_ac hl_b hl_da hl_vd (hn) (by omega) (by omega) (by omega) (hV1)) (fun v1 M2 q3 => ?_)
          rcases q3 with q3 | q3
          · skip
            obtain ⟨e4, q73_s, rfl, h5, f6⟩ := q3
            have h8 := (f6.1 b (nin2 (ob_ne hl_b hl_ac (by decide)) (ob_ne hl_b hl_vd (by decide)))).trans hl_b
            have h9 := (f6.1 da (nin2 (Ne.symm (ob_ar hl_ac hl_da)) (Ne.symm (ob_ar hl_vd hl_da)))).trans hl_da
            have h10 := (f6.1 c (nin2 (ob_ne hl_c hl_ac (by decide)) (ob_ne hl_c hl_vd (by decide)))).trans hl_c
            have hF11 := hF1.tr f6 (by simp)
            have hV12 := hV1.keep f6.gm (n7c hl_ac (by decide) (n7c hl_vd (by decide) (n7nil)))
            show pl _ _ _ (76, [(0, .ref ac), (2, .int (nI (by2 f p1))), (3, .int (nI p)), (4, .int (nI i))], [.int 0], M2) _
            refine ps_if (S1 := (81, [(0, .ref ac), (2, .int (nI (by2 f p1))), (3, .int (nI p)), (4, .int (nI i))], [], M2)) (S2 := (79, [(0, .ref ac), (2, .int (nI (by2 f p1))), (3, .int (nI p)), (4, .int (nI i))], [], M2)) rfl rfl rfl (fun c_76 => ?_) (fun c_76 => ?_)
            · exact absurd (of_decide_eq_true c_76) (by decide)
            refine ps_st (S' := (80, [(0, .ref ac), (2, .int (nI (by2 f p1))), (3, .int (nI p)), (4, .int (nI i))], [.int 0], M2)) rfl rfl rfl ?_
            exact ps_ret rfl rfl (Or.inl ⟨e4, by rw [← hs9, caS_st (i := i) (by omega), hk9, q73_s], rfl, h5, hF11⟩)
          · skip
            obtain ⟨s'13, q73_s, q73_l, rfl, h14, h15, f16⟩ := q3
            have h18 := (f16.1 b (nin2 (ob_ne hl_b hl_ac (by decide)) (ob_ne hl_b hl_vd (by decide)))).trans hl_b
            have h19 := (f16.1 da (nin2 (Ne.symm (ob_ar hl_ac hl_da)) (Ne.symm (ob_ar hl_vd hl_da)))).trans hl_da
            have h20 := (f16.1 c (nin2 (ob_ne hl_c hl_ac (by decide)) (ob_ne hl_c hl_vd (by decide)))).trans hl_c
            have hF21 := hF1.tr f16 (by simp)
            have hV22 := hV1.keep f16.gm (n7c hl_ac (by decide) (n7c hl_vd (by decide) (n7nil)))
            show pl _ _ _ (76, [(0, .ref ac), (2, .int (nI (by2 f p1))), (3, .int (nI p)), (4, .int (nI i))], [.int 1], M2) _
            refine ps_if (S1 := (81, [(0, .ref ac), (2, .int (nI (by2 f p1))), (3, .int (nI p)), (4, .int (nI i))], [], M2)) (S2 := (79, [(0, .ref ac), (2, .int (nI (by2 f p1))), (3, .int (nI p)), (4, .int (nI i))], [], M2)) rfl rfl rfl (fun c_76 => ?_) (fun c_76 => ?_)
            rotate_left
            · exact absurd (by decide) (of_decide_eq_false c_76)
            refine ps_st (S' := (82, [(0, .ref ac), (2, .int (nI (by2 f p1))), (3, .int (nI p)), (4, .int (nI i))], [.ref ac], M2)) rfl rfl rfl ?_
            refine ps_st (S' := (83, [(0, .ref ac), (2, .int (nI (by2 f p1))), (3, .int (nI p)), (4, .int (nI i))], [.int (nI p), .ref ac], M2)) rfl rfl rfl ?_
            refine pl_call (a := [.ref ac, .int (nI p)]) (rest := []) rfl rfl rfl (dk_behind (f := f) (n := n) (q := q) (ac := ac) (c := c) (b := b) (da := da) (vd := vd) (s1 := (nI s'13)) (p := p) h14 h18 h19 (hn) (by omega)) (fun v23 M24 q25 => ?_)
            obtain ⟨rfl, rfl⟩ := q25
            show pl _ _ _ (86, [(0, .ref ac), (2, .int (nI (by2 f p1))), (3, .int (nI p)), (4, .int (nI i))], [.int (nI (p + 6 + by4 f (p + 2)))], M2) _
            refine ps_st (S' := (87, [(3, .int (nI (p + 6 + by4 f (p + 2)))), (0, .ref ac), (2, .int (nI (by2 f p1))), (4, .int (nI i))], [], M2)) rfl rfl rfl ?_
            refine ps_st (S' := (90, [(4, .int ((nI i) + 1)), (3, .int (nI (p + 6 + by4 f (p + 2)))), (0, .ref ac), (2, .int (nI (by2 f p1)))], [], M2)) rfl rfl rfl ?_
            rw [nI_add1 (p := i) (k := 1) (x := 1) rfl (by omega)]
            show pl _ _ _ (_, [(4, .int (nI (i + 1))), (3, .int (nI (p + 6 + by4 f (p + 2)))), (0, .ref ac), (2, .int (nI (by2 f p1)))], [], M2) _
            refine ps_st (S' := (16, [(0, .ref ac), (2, .int (nI (by2 f p1))), (3, .int (nI (p + 6 + by4 f (p + 2)))), (4, .int (nI (i + 1)))], [], M2)) rfl rfl rfl ?_
            exact ih (i + 1) (p + 6 + by4 f (p + 2)) ((s'13)) M2 h14 h18 h19 h20 h15 hV22 hF21 (by omega) (q73_l) (hq7) (by
                rw [← hs9, caS_st (i := i) (by omega), hk9, q73_s])
        · have c_31 : ¬ ((nI mj) < 50) := of_decide_eq_false c_31
          have n_31 : ¬ (mj < 50) := fun h9 => c_31 ((lt_nI (p := mj) (n := 50) (by omega) (by decide)).mpr h9)
          refine ps_st (S' := (35, [(0, .ref ac), (2, .int (nI (by2 f p1))), (3, .int (nI p)), (4, .int (nI i))], [.ref ac], M1)) rfl rfl rfl ?_
          refine ps_get (S' := (38, [(0, .ref ac), (2, .int (nI (by2 f p1))), (3, .int (nI p)), (4, .int (nI i))], [.ref q], M1)) rfl hl_ac rfl rfl ?_
          refine ps_st (S' := (39, [(0, .ref ac), (2, .int (nI (by2 f p1))), (3, .int (nI p)), (4, .int (nI i))], [.ref ac, .ref q], M1)) rfl rfl rfl ?_
          refine ps_get (S' := (42, [(0, .ref ac), (2, .int (nI (by2 f p1))), (3, .int (nI p)), (4, .int (nI i))], [.ref b, .ref q], M1)) rfl hl_ac rfl rfl ?_
          refine ps_st (S' := (43, [(0, .ref ac), (2, .int (nI (by2 f p1))), (3, .int (nI p)), (4, .int (nI i))], [.int (nI p), .ref b, .ref q], M1)) rfl rfl rfl ?_
          refine pl_call (a := [.ref b, .int (nI p)]) (rest := [.ref q]) rfl rfl rfl (dk_u2 (f := f) (n := n) (b := b) (da := da) (p := p) hl_b hl_da (hn) (by omega)) (fun v26 M27 q28 => ?_)
          obtain ⟨rfl, rfl⟩ := q28
          show pl _ _ _ (46, [(0, .ref ac), (2, .int (nI (by2 f p1))), (3, .int (nI p)), (4, .int (nI i))], [.int (nI (by2 f p)), .ref q], M1) _
          have hu_43 := by2_lt f p
          refine ps_st (S' := (48, [(0, .ref ac), (2, .int (nI (by2 f p1))), (3, .int (nI p)), (4, .int (nI i))], [.ref (g.2.1 10), .int (nI (by2 f p)), .ref q], M1)) rfl rfl rfl ?_
          refine pl_call (a := [.ref q, .int (nI (by2 f p)), .ref (g.2.1 10)]) (rest := []) rfl rfl rfl (dy_textIs (f := f) (n := n) (N := N) (q := q) (E := E) (j := (by2 f p)) (k := 10) (hV1) (by2_lt _ _) (by decide)) (fun v29 M30 q31 => ?_)
          obtain ⟨rfl, rfl⟩ := q31
          show pl _ _ _ (51, [(0, .ref ac), (2, .int (nI (by2 f p1))), (3, .int (nI p)), (4, .int (nI i))], [.int (nI (eqN (tX f n E (by2 f p)) (ltx 10)))], M1) _
          refine ps_if (S1 := (58, [(0, .ref ac), (2, .int (nI (by2 f p1))), (3, .int (nI p)), (4, .int (nI i))], [], M1)) (S2 := (54, [(0, .ref ac), (2, .int (nI (by2 f p1))), (3, .int (nI p)), (4, .int (nI i))], [], M1)) rfl rfl rfl (fun c_51 => ?_) (fun c_51 => ?_)
          · have c_51 : (nI (eqN (tX f n E (by2 f p)) (ltx 10))) = 0 := of_decide_eq_true c_51
            have n_51 : eqN (tX f n E (by2 f p)) (ltx 10) = 0 := (eq_nI (p := eqN (tX f n E (by2 f p)) (ltx 10)) (n := 0) (Nat.lt_trans (le1_eq _ _) (by decide)) (by decide)).mp c_51
            refine ps_st (S' := (59, [(0, .ref ac), (2, .int (nI (by2 f p1))), (3, .int (nI p)), (4, .int (nI i))], [.int 0], M1)) rfl rfl rfl ?_
            refine ps_st (S' := (61, [(5, .int 0), (0, .ref ac), (2, .int (nI (by2 f p1))), (3, .int (nI p)), (4, .int (nI i))], [], M1)) rfl rfl rfl ?_
            refine ps_st (S' := (62, [(5, .int 0), (0, .ref ac), (2, .int (nI (by2 f p1))), (3, .int (nI p)), (4, .int (nI i))], [.ref ac], M1)) rfl rfl rfl ?_
            refine ps_st (S' := (63, [(5, .int 0), (0, .ref ac), (2, .int (nI (by2 f p1))), (3, .int (nI p)), (4, .int (nI i))], [.int (nI p), .ref ac], M1)) rfl rfl rfl ?_
            refine ps_st (S' := (65, [(5, .int 0), (0, .ref ac), (2, .int (nI (by2 f p1))), (3, .int (nI p)), (4, .int (nI i))], [.int 0, .int (nI p), .ref ac], M1)) rfl rfl rfl ?_
            refine ps_if (S1 := (72, [(5, .int 0), (0, .ref ac), (2, .int (nI (by2 f p1))), (3, .int (nI p)), (4, .int (nI i))], [.int (nI p), .ref ac], M1)) (S2 := (68, [(5, .int 0), (0, .ref ac), (2, .int (nI (by2 f p1))), (3, .int (nI p)), (4, .int (nI i))], [.int (nI p), .ref ac], M1)) rfl rfl rfl (fun c_65 => ?_) (fun c_65 => ?_)
            rotate_left
            · exact absurd (by decide) (of_decide_eq_false c_65)
            refine ps_st (S' := (73, [(0, .ref ac), (2, .int (nI (by2 f p1))), (3, .int (nI p)), (4, .int (nI i))], [.int 0, .int (nI p), .ref ac], M1)) rfl rfl rfl ?_
            have hk9 : smN4 f n E mj (by2 f p) = 0 := by
              unfold smN4
              first | ((repeat first | rw [if_pos (by omega)] | rw [if_neg (by omega)]) <;> first | rfl | omega) | ((repeat' split) <;> first | rfl | (exfalso; omega) | omega)
            refine pl_call (a := [.ref ac, .int (nI p), .int 0]) (rest := []) rfl rfl rfl (dk_isNew (f := f) (n := n) (N := N) (q := q) (E := E) (ac := ac) (c := c) (b := b) (da := da) (vd := vd) (fr := fr) (mr := mr) (fa := fa) (ic := ic) (mj := mj) (na := na) (pa := pa) (mi := mi) (ru := ru) (wa := wa) (k1 := k1) (k2 := k2) (k3 := k3) (k4 := k4) (k5 := k5) (k6 := k6) (k7 := k7) (s := s2) (k := 0) (p := p) hl_ac hl_b hl_da hl_vd (hn) (by omega) (by omega) (by omega) (hV1)) (fun v32 M33 q34 => ?_)
            rcases q34 with q34 | q34
            · skip
              obtain ⟨e35, q73_s, rfl, h36, f37⟩ := q34
              have h39 := (f37.1 b (nin2 (ob_ne hl_b hl_ac (by decide)) (ob_ne hl_b hl_vd (by decide)))).trans hl_b
              have h40 := (f37.1 da (nin2 (Ne.symm (ob_ar hl_ac hl_da)) (Ne.symm (ob_ar hl_vd hl_da)))).trans hl_da
              have h41 := (f37.1 c (nin2 (ob_ne hl_c hl_ac (by decide)) (ob_ne hl_c hl_vd (by decide)))).trans hl_c
              have hF42 := hF1.tr f37 (by simp)
              have hV43 := hV1.keep f37.gm (n7c hl_ac (by decide) (n7c hl_vd (by decide) (n7nil)))
              show pl _ _ _ (76, [(0, .ref ac), (2, .int (nI (by2 f p1))), (3, .int (nI p)), (4, .int (nI i))], [.int 0], M33) _
              refine ps_if (S1 := (81, [(0, .ref ac), (2, .int (nI (by2 f p1))), (3, .int (nI p)), (4, .int (nI i))], [], M33)) (S2 := (79, [(0, .ref ac), (2, .int (nI (by2 f p1))), (3, .int (nI p)), (4, .int (nI i))], [], M33)) rfl rfl rfl (fun c_76 => ?_) (fun c_76 => ?_)
              · exact absurd (of_decide_eq_true c_76) (by decide)
              refine ps_st (S' := (80, [(0, .ref ac), (2, .int (nI (by2 f p1))), (3, .int (nI p)), (4, .int (nI i))], [.int 0], M33)) rfl rfl rfl ?_
              exact ps_ret rfl rfl (Or.inl ⟨e35, by rw [← hs9, caS_st (i := i) (by omega), hk9, q73_s], rfl, h36, hF42⟩)
            · skip
              obtain ⟨s'44, q73_s, q73_l, rfl, h45, h46, f47⟩ := q34
              have h49 := (f47.1 b (nin2 (ob_ne hl_b hl_ac (by decide)) (ob_ne hl_b hl_vd (by decide)))).trans hl_b
              have h50 := (f47.1 da (nin2 (Ne.symm (ob_ar hl_ac hl_da)) (Ne.symm (ob_ar hl_vd hl_da)))).trans hl_da
              have h51 := (f47.1 c (nin2 (ob_ne hl_c hl_ac (by decide)) (ob_ne hl_c hl_vd (by decide)))).trans hl_c
              have hF52 := hF1.tr f47 (by simp)
              have hV53 := hV1.keep f47.gm (n7c hl_ac (by decide) (n7c hl_vd (by decide) (n7nil)))
              show pl _ _ _ (76, [(0, .ref ac), (2, .int (nI (by2 f p1))), (3, .int (nI p)), (4, .int (nI i))], [.int 1], M33) _
              refine ps_if (S1 := (81, [(0, .ref ac), (2, .int (nI (by2 f p1))), (3, .int (nI p)), (4, .int (nI i))], [], M33)) (S2 := (79, [(0, .ref ac), (2, .int (nI (by2 f p1))), (3, .int (nI p)), (4, .int (nI i))], [], M33)) rfl rfl rfl (fun c_76 => ?_) (fun c_76 => ?_)
              rotate_left
              · exact absurd (by decide) (of_decide_eq_false c_76)
              refine ps_st (S' := (82, [(0, .ref ac), (2, .int (nI (by2 f p1))), (3, .int (nI p)), (4, .int (nI i))], [.ref ac], M33)) rfl rfl rfl ?_
              refine ps_st (S' := (83, [(0, .ref ac), (2, .int (nI (by2 f p1))), (3, .int (nI p)), (4, .int (nI i))], [.int (nI p), .ref ac], M33)) rfl rfl rfl ?_
              refine pl_call (a := [.ref ac, .int (nI p)]) (rest := []) rfl rfl rfl (dk_behind (f := f) (n := n) (q := q) (ac := ac) (c := c) (b := b) (da := da) (vd := vd) (s1 := (nI s'44)) (p := p) h45 h49 h50 (hn) (by omega)) (fun v54 M55 q56 => ?_)
              obtain ⟨rfl, rfl⟩ := q56
              show pl _ _ _ (86, [(0, .ref ac), (2, .int (nI (by2 f p1))), (3, .int (nI p)), (4, .int (nI i))], [.int (nI (p + 6 + by4 f (p + 2)))], M33) _
              refine ps_st (S' := (87, [(3, .int (nI (p + 6 + by4 f (p + 2)))), (0, .ref ac), (2, .int (nI (by2 f p1))), (4, .int (nI i))], [], M33)) rfl rfl rfl ?_
              refine ps_st (S' := (90, [(4, .int ((nI i) + 1)), (3, .int (nI (p + 6 + by4 f (p + 2)))), (0, .ref ac), (2, .int (nI (by2 f p1)))], [], M33)) rfl rfl rfl ?_
              rw [nI_add1 (p := i) (k := 1) (x := 1) rfl (by omega)]
              show pl _ _ _ (_, [(4, .int (nI (i + 1))), (3, .int (nI (p + 6 + by4 f (p + 2)))), (0, .ref ac), (2, .int (nI (by2 f p1)))], [], M33) _
              refine ps_st (S' := (16, [(0, .ref ac), (2, .int (nI (by2 f p1))), (3, .int (nI (p + 6 + by4 f (p + 2)))), (4, .int (nI (i + 1)))], [], M33)) rfl rfl rfl ?_
              exact ih (i + 1) (p + 6 + by4 f (p + 2)) ((s'44)) M33 h45 h49 h50 h51 h46 hV53 hF52 (by omega) (q73_l) (hq7) (by
                  rw [← hs9, caS_st (i := i) (by omega), hk9, q73_s])
          · have c_51 : ¬ ((nI (eqN (tX f n E (by2 f p)) (ltx 10))) = 0) := of_decide_eq_false c_51
            have n_51 : ¬ (eqN (tX f n E (by2 f p)) (ltx 10) = 0) := fun h9 => c_51 ((eq_nI (p := eqN (tX f n E (by2 f p)) (ltx 10)) (n := 0) (Nat.lt_trans (le1_eq _ _) (by decide)) (by decide)).mpr h9)
            refine ps_st (S' := (55, [(0, .ref ac), (2, .int (nI (by2 f p1))), (3, .int (nI p)), (4, .int (nI i))], [.int 1], M1)) rfl rfl rfl ?_
            refine ps_st (S' := (59, [(0, .ref ac), (2, .int (nI (by2 f p1))), (3, .int (nI p)), (4, .int (nI i))], [.int 1], M1)) rfl rfl rfl ?_
            refine ps_st (S' := (61, [(5, .int 1), (0, .ref ac), (2, .int (nI (by2 f p1))), (3, .int (nI p)), (4, .int (nI i))], [], M1)) rfl rfl rfl ?_
            refine ps_st (S' := (62, [(5, .int 1), (0, .ref ac), (2, .int (nI (by2 f p1))), (3, .int (nI p)), (4, .int (nI i))], [.ref ac], M1)) rfl rfl rfl ?_
            refine ps_st (S' := (63, [(5, .int 1), (0, .ref ac), (2, .int (nI (by2 f p1))), (3, .int (nI p)), (4, .int (nI i))], [.int (nI p), .ref ac], M1)) rfl rfl rfl ?_
            refine ps_st (S' := (65, [(5, .int 1), (0, .ref ac), (2, .int (nI (by2 f p1))), (3, .int (nI p)), (4, .int (nI i))], [.int 1, .int (nI p), .ref ac], M1)) rfl rfl rfl ?_
            refine ps_if (S1 := (72, [(5, .int 1), (0, .ref ac), (2, .int (nI (by2 f p1))), (3, .int (nI p)), (4, .int (nI i))], [.int (nI p), .ref ac], M1)) (S2 := (68, [(5, .int 1), (0, .ref ac), (2, .int (nI (by2 f p1))), (3, .int (nI p)), (4, .int (nI i))], [.int (nI p), .ref ac], M1)) rfl rfl rfl (fun c_65 => ?_) (fun c_65 => ?_)
            · exact absurd (of_decide_eq_true c_65) (by decide)
            refine ps_st (S' := (69, [(5, .int 1), (0, .ref ac), (2, .int (nI (by2 f p1))), (3, .int (nI p)), (4, .int (nI i))], [.int 4, .int (nI p), .ref ac], M1)) rfl rfl rfl ?_
            refine ps_st (S' := (73, [(0, .ref ac), (2, .int (nI (by2 f p1))), (3, .int (nI p)), (4, .int (nI i))], [.int 4, .int (nI p), .ref ac], M1)) rfl rfl rfl ?_
            have hk9 : smN4 f n E mj (by2 f p) = 4 := by
              unfold smN4
              first | ((repeat first | rw [if_pos (by omega)] | rw [if_neg (by omega)]) <;> first | rfl | omega) | ((repeat' split) <;> first | rfl | (exfalso; omega) | omega)
            refine pl_call (a := [.ref ac, .int (nI p), .int 4]) (rest := []) rfl rfl rfl (dk_isNew (f := f) (n := n) (N := N) (q := q) (E := E) (ac := ac) (c := c) (b := b) (da := da) (vd := vd) (fr := fr) (mr := mr) (fa := fa) (ic := ic) (mj := mj) (na := na) (pa := pa) (mi := mi) (ru := ru) (wa := wa) (k1 := k1) (k2 := k2) (k3 := k3) (k4 := k4) (k5 := k5) (k6 := k6) (k7 := k7) (s := s2) (k := 4) (p := p) hl_ac hl_b hl_da hl_vd (hn) (by omega) (by omega) (by omega) (hV1)) (fun v57 M58 q59 => ?_)
            rcases q59 with q59 | q59
            · skip
              obtain ⟨e60, q73_s, rfl, h61, f62⟩ := q59
              have h64 := (f62.1 b (nin2 (ob_ne hl_b hl_ac (by decide)) (ob_ne hl_b hl_vd (by decide)))).trans hl_b
              have h65 := (f62.1 da (nin2 (Ne.symm (ob_ar hl_ac hl_da)) (Ne.symm (ob_ar hl_vd hl_da)))).trans hl_da
              have h66 := (f62.1 c (nin2 (ob_ne hl_c hl_ac (by decide)) (ob_ne hl_c hl_vd (by decide)))).trans hl_c
              have hF67 := hF1.tr f62 (by simp)
              have hV68 := hV1.keep f62.gm (n7c hl_ac (by decide) (n7c hl_vd (by decide) (n7nil)))
              show pl _ _ _ (76, [(0, .ref ac), (2, .int (nI (by2 f p1))), (3, .int (nI p)), (4, .int (nI i))], [.int 0], M58) _
              refine ps_if (S1 := (81, [(0, .ref ac), (2, .int (nI (by2 f p1))), (3, .int (nI p)), (4, .int (nI i))], [], M58)) (S2 := (79, [(0, .ref ac), (2, .int (nI (by2 f p1))), (3, .int (nI p)), (4, .int (nI i))], [], M58)) rfl rfl rfl (fun c_76 => ?_) (fun c_76 => ?_)
              · exact absurd (of_decide_eq_true c_76) (by decide)
              refine ps_st (S' := (80, [(0, .ref ac), (2, .int (nI (by2 f p1))), (3, .int (nI p)), (4, .int (nI i))], [.int 0], M58)) rfl rfl rfl ?_
              exact ps_ret rfl rfl (Or.inl ⟨e60, by rw [← hs9, caS_st (i := i) (by omega), hk9, q73_s], rfl, h61, hF67⟩)
            · skip
              obtain ⟨s'69, q73_s, q73_l, rfl, h70, h71, f72⟩ := q59
              have h74 := (f72.1 b (nin2 (ob_ne hl_b hl_ac (by decide)) (ob_ne hl_b hl_vd (by decide)))).trans hl_b
              have h75 := (f72.1 da (nin2 (Ne.symm (ob_ar hl_ac hl_da)) (Ne.symm (ob_ar hl_vd hl_da)))).trans hl_da
              have h76 := (f72.1 c (nin2 (ob_ne hl_c hl_ac (by decide)) (ob_ne hl_c hl_vd (by decide)))).trans hl_c
              have hF77 := hF1.tr f72 (by simp)
              have hV78 := hV1.keep f72.gm (n7c hl_ac (by decide) (n7c hl_vd (by decide) (n7nil)))
              show pl _ _ _ (76, [(0, .ref ac), (2, .int (nI (by2 f p1))), (3, .int (nI p)), (4, .int (nI i))], [.int 1], M58) _
              refine ps_if (S1 := (81, [(0, .ref ac), (2, .int (nI (by2 f p1))), (3, .int (nI p)), (4, .int (nI i))], [], M58)) (S2 := (79, [(0, .ref ac), (2, .int (nI (by2 f p1))), (3, .int (nI p)), (4, .int (nI i))], [], M58)) rfl rfl rfl (fun c_76 => ?_) (fun c_76 => ?_)
              rotate_left
              · exact absurd (by decide) (of_decide_eq_false c_76)
              refine ps_st (S' := (82, [(0, .ref ac), (2, .int (nI (by2 f p1))), (3, .int (nI p)), (4, .int (nI i))], [.ref ac], M58)) rfl rfl rfl ?_
              refine ps_st (S' := (83, [(0, .ref ac), (2, .int (nI (by2 f p1))), (3, .int (nI p)), (4, .int (nI i))], [.int (nI p), .ref ac], M58)) rfl rfl rfl ?_
              refine pl_call (a := [.ref ac, .int (nI p)]) (rest := []) rfl rfl rfl (dk_behind (f := f) (n := n) (q := q) (ac := ac) (c := c) (b := b) (da := da) (vd := vd) (s1 := (nI s'69)) (p := p) h70 h74 h75 (hn) (by omega)) (fun v79 M80 q81 => ?_)
              obtain ⟨rfl, rfl⟩ := q81
              show pl _ _ _ (86, [(0, .ref ac), (2, .int (nI (by2 f p1))), (3, .int (nI p)), (4, .int (nI i))], [.int (nI (p + 6 + by4 f (p + 2)))], M58) _
              refine ps_st (S' := (87, [(3, .int (nI (p + 6 + by4 f (p + 2)))), (0, .ref ac), (2, .int (nI (by2 f p1))), (4, .int (nI i))], [], M58)) rfl rfl rfl ?_
              refine ps_st (S' := (90, [(4, .int ((nI i) + 1)), (3, .int (nI (p + 6 + by4 f (p + 2)))), (0, .ref ac), (2, .int (nI (by2 f p1)))], [], M58)) rfl rfl rfl ?_
              rw [nI_add1 (p := i) (k := 1) (x := 1) rfl (by omega)]
              show pl _ _ _ (_, [(4, .int (nI (i + 1))), (3, .int (nI (p + 6 + by4 f (p + 2)))), (0, .ref ac), (2, .int (nI (by2 f p1)))], [], M58) _
              refine ps_st (S' := (16, [(0, .ref ac), (2, .int (nI (by2 f p1))), (3, .int (nI (p + 6 + by4 f (p + 2)))), (4, .int (nI (i + 1)))], [], M58)) rfl rfl rfl ?_
              exact ih (i + 1) (p + 6 + by4 f (p + 2)) ((s'69)) M58 h70 h74 h75 h76 h71 hV78 hF77 (by omega) (q73_l) (hq7) (by
                  rw [← hs9, caS_st (i := i) (by omega), hk9, q73_s])
  refine ps_st (S' := (1, [(0, .ref ac), (1, .int (nI p1))], [.ref ac], M)) rfl rfl rfl ?_
  refine ps_get (S' := (4, [(0, .ref ac), (1, .int (nI p1))], [.ref b], M)) rfl h_ac rfl rfl ?_
  refine ps_st (S' := (5, [(0, .ref ac), (1, .int (nI p1))], [.int (nI p1), .ref b], M)) rfl rfl rfl ?_
  refine pl_call (a := [.ref b, .int (nI p1)]) (rest := []) rfl rfl rfl (dk_u2 (f := f) (n := n) (b := b) (da := da) (p := p1) h_b h_da (hn) (by omega)) (fun v82 M83 q84 => ?_)
  obtain ⟨rfl, rfl⟩ := q84
  show pl _ _ _ (8, [(0, .ref ac), (1, .int (nI p1))], [.int (nI (by2 f p1))], M) _
  have hu_5 := by2_lt f p1
  refine ps_st (S' := (9, [(2, .int (nI (by2 f p1))), (0, .ref ac), (1, .int (nI p1))], [], M)) rfl rfl rfl ?_
  refine ps_st (S' := (10, [(2, .int (nI (by2 f p1))), (0, .ref ac), (1, .int (nI p1))], [.int (nI p1)], M)) rfl rfl rfl ?_
  refine ps_st (S' := (11, [(2, .int (nI (by2 f p1))), (0, .ref ac), (1, .int (nI p1))], [.int 2, .int (nI p1)], M)) rfl rfl rfl ?_
  refine ps_st (S' := (12, [(2, .int (nI (by2 f p1))), (0, .ref ac), (1, .int (nI p1))], [.int ((nI p1) + 2)], M)) rfl rfl rfl ?_
  rw [nI_add1 (p := p1) (k := 2) (x := 2) rfl (by omega)]
  show pl _ _ _ (_, [(2, .int (nI (by2 f p1))), (0, .ref ac), (1, .int (nI p1))], [.int (nI (p1 + 2))], M) _
  refine ps_st (S' := (13, [(3, .int (nI (p1 + 2))), (2, .int (nI (by2 f p1))), (0, .ref ac), (1, .int (nI p1))], [], M)) rfl rfl rfl ?_
  refine ps_st (S' := (14, [(3, .int (nI (p1 + 2))), (2, .int (nI (by2 f p1))), (0, .ref ac), (1, .int (nI p1))], [.int 0], M)) rfl rfl rfl ?_
  refine ps_st (S' := (16, [(0, .ref ac), (2, .int (nI (by2 f p1))), (3, .int (nI (p1 + 2))), (4, .int 0)], [], M)) rfl rfl rfl ?_
  exact (LL kf) (0) (p1 + 2) (s) M h_ac h_b h_da h_c h_vd hV hF (by omega) (hs) (hat) (rfl)
set_option maxHeartbeats 1000000 in
theorem dk_inst0 {g : xe_G} {M : mi_H} {o5 b : Nat} {x1 x2 : Int32} (h_o5 : M.1 o5 = some (ob 5 [.null, .int 0, .int 0, .int 0, .int 0, .int 0, .int 0, .int 0, .int 0, .int 0, .int 0, .int 0]))  : pt (mT g) 86 [.ref o5, .ref b, .int x1, .int x2] M (fun v M' => (v = none ∧ fm [o5] M M')) := by
  refine pt_in (b := mb_86 g) rfl (fun kf => ?_)
  show pl (mT g) kf (mb_86 g).2 (0, [(0, .ref o5), (1, .ref b), (2, .int x1), (3, .int x2)], [], M) _
  have hF : fm [o5] M M := fm.rf
  refine ps_st (S' := (1, [(0, .ref o5), (1, .ref b), (2, .int x1), (3, .int x2)], [.ref o5], M)) rfl rfl rfl ?_
  refine ps_st (S' := (4, [(0, .ref o5), (1, .ref b), (2, .int x1), (3, .int x2)], [], M)) rfl rfl rfl ?_
  refine ps_st (S' := (5, [(0, .ref o5), (1, .ref b), (2, .int x1), (3, .int x2)], [.ref o5], M)) rfl rfl rfl ?_
  refine ps_st (S' := (6, [(0, .ref o5), (1, .ref b), (2, .int x1), (3, .int x2)], [.ref b, .ref o5], M)) rfl rfl rfl ?_
  refine ps_put (l' := [.ref b, .int 0, .int 0, .int 0, .int 0, .int 0, .int 0, .int 0, .int 0, .int 0, .int 0, .int 0]) rfl h_o5 rfl rfl (fun M1 h2 f3 z4 => ?_)
  have hF5 := hF.up (by simp) f3 z4
  show pl _ _ _ (9, [(0, .ref o5), (1, .ref b), (2, .int x1), (3, .int x2)], [], M1) _
  refine ps_st (S' := (10, [(0, .ref o5), (1, .ref b), (2, .int x1), (3, .int x2)], [.ref o5], M1)) rfl rfl rfl ?_
  refine ps_st (S' := (11, [(0, .ref o5), (1, .ref b), (2, .int x1), (3, .int x2)], [.int x1, .ref o5], M1)) rfl rfl rfl ?_
  refine ps_put (l' := [.ref b, .int x1, .int 0, .int 0, .int 0, .int 0, .int 0, .int 0, .int 0, .int 0, .int 0, .int 0]) rfl h2 rfl rfl (fun M6 h7 f8 z9 => ?_)
  have hF10 := hF5.up (by simp) f8 z9
  show pl _ _ _ (14, [(0, .ref o5), (1, .ref b), (2, .int x1), (3, .int x2)], [], M6) _
  refine ps_st (S' := (15, [(0, .ref o5), (1, .ref b), (2, .int x1), (3, .int x2)], [.ref o5], M6)) rfl rfl rfl ?_
  refine ps_st (S' := (16, [(0, .ref o5), (1, .ref b), (2, .int x1), (3, .int x2)], [.int x2, .ref o5], M6)) rfl rfl rfl ?_
  refine ps_put (l' := [.ref b, .int x1, .int x2, .int 0, .int 0, .int 0, .int 0, .int 0, .int 0, .int 0, .int 0, .int 0]) rfl h7 rfl rfl (fun M11 h12 f13 z14 => ?_)
  have hF15 := hF10.up (by simp) f13 z14
  show pl _ _ _ (19, [(0, .ref o5), (1, .ref b), (2, .int x1), (3, .int x2)], [], M11) _
  exact ps_ret rfl rfl (⟨rfl, hF15⟩)
set_option maxHeartbeats 1000000 in
theorem dk_code0 {g : xe_G} {M : mi_H} {f : Nat → Int32} {n q c b da fr mr fa ic mj na pa cd0 p0 : Nat} {mi k1 k2 k3 k4 k5 k6 k7 : Int32} (h_cd0 : M.1 cd0 = some (ob 4 [.int 0, .int 0, .int 0, .int 0, .int 0, .null, .int 0, .null, .int 0, .null, .null])) (h_c : M.1 c = some (ob 3 [.ref b, .ref q, .int mi, .int (nI mj), .int (nI fa), .int (nI ic), .ref fr, .ref mr, .int (nI na), .int (nI pa), .int k1, .int k2, .int k3, .int k4, .int k5, .int k6, .int k7])) (h_b : M.1 b = some (ob 1 [.ref da])) (h_da : M.1 da = some (ar .byte n f)) (hn : n ≤ 65540) (hin : p0 + 8 + by4 f (p0 + 4) + 2 ≤ n) (l_cd0 : cd0 < M.2.1) (l_c : c < M.2.1) (l_b : b < M.2.1) (l_da : da < M.2.1) : pt (mT g) 74 [.ref cd0, .ref c, .int (nI p0)] M (fun v M' => (v = none ∧ M'.1 cd0 = some (ob 4 [.int (nI (by2 f p0)), .int (nI (by2 f (p0 + 2))), .int (nI (by4 f (p0 + 4))), .int (nI (p0 + 8 + by4 f (p0 + 4) + 2)), .int (nI (by2 f (p0 + 8 + by4 f (p0 + 4)))), .ref q, .int (nI mj), .ref (M.2.1), .int 0, .null, .null]) ∧ gm [cd0] M M' ∧ M'.2.1 = M.2.1 + 1)) := by
  refine pt_in (b := mb_74 g) rfl (fun kf => ?_)
  show pl (mT g) kf (mb_74 g).2 (0, [(0, .ref cd0), (1, .ref c), (2, .int (nI p0))], [], M) _
  have hF : gm [cd0] M M := gm.rf
  obtain ⟨z0, tp0⟩ : ∃ z0, M.2.1 = z0 := ⟨_, rfl⟩
  refine ps_st (S' := (1, [(0, .ref cd0), (1, .ref c), (2, .int (nI p0))], [.ref cd0], M)) rfl rfl rfl ?_
  refine ps_st (S' := (4, [(0, .ref cd0), (1, .ref c), (2, .int (nI p0))], [], M)) rfl rfl rfl ?_
  refine ps_st (S' := (5, [(0, .ref cd0), (1, .ref c), (2, .int (nI p0))], [.ref c], M)) rfl rfl rfl ?_
  refine ps_get (S' := (8, [(0, .ref cd0), (1, .ref c), (2, .int (nI p0))], [.ref b], M)) rfl h_c rfl rfl ?_
  refine ps_st (S' := (9, [(3, .ref b), (0, .ref cd0), (1, .ref c), (2, .int (nI p0))], [], M)) rfl rfl rfl ?_
  refine ps_st (S' := (10, [(3, .ref b), (0, .ref cd0), (1, .ref c), (2, .int (nI p0))], [.ref cd0], M)) rfl rfl rfl ?_
  refine ps_st (S' := (11, [(3, .ref b), (0, .ref cd0), (1, .ref c), (2, .int (nI p0))], [.ref b, .ref cd0], M)) rfl rfl rfl ?_
  refine ps_st (S' := (12, [(3, .ref b), (0, .ref cd0), (1, .ref c), (2, .int (nI p0))], [.int (nI p0), .ref b, .ref cd0], M)) rfl rfl rfl ?_
  refine pl_call (a := [.ref b, .int (nI p0)]) (rest := [.ref cd0]) rfl rfl rfl (dk_u2 (f := f) (n := n) (b := b) (da := da) (p := p0) h_b h_da (hn) (by omega)) (fun v1 M2 q3 => ?_)
  obtain ⟨rfl, rfl⟩ := q3
  show pl _ _ _ (15, [(3, .ref b), (0, .ref cd0), (1, .ref c), (2, .int (nI p0))], [.int (nI (by2 f p0)), .ref cd0], M) _
  have hu_12 := by2_lt f p0
  refine ps_put (l' := [.int (nI (by2 f p0)), .int 0, .int 0, .int 0, .int 0, .null, .int 0, .null, .int 0, .null, .null]) rfl h_cd0 rfl rfl (fun M4 h5 f6 z7 => ?_)
  have h8 := (f6 c (ob_ne h_c h_cd0 (by decide))).trans h_c
  have h9 := (f6 b (ob_ne h_b h_cd0 (by decide))).trans h_b
  have h10 := (f6 da (Ne.symm (ob_ar h_cd0 h_da))).trans h_da
  have hF11 := hF.up (Or.inl (by simp)) f6 (by rw [z7]; exact Nat.le_refl _)
  have tp12 : M4.2.1 = z0 := by rw [z7]; exact tp0
  show pl _ _ _ (18, [(3, .ref b), (0, .ref cd0), (1, .ref c), (2, .int (nI p0))], [], M4) _
  refine ps_st (S' := (19, [(3, .ref b), (0, .ref cd0), (1, .ref c), (2, .int (nI p0))], [.ref cd0], M4)) rfl rfl rfl ?_
  refine ps_st (S' := (20, [(3, .ref b), (0, .ref cd0), (1, .ref c), (2, .int (nI p0))], [.ref b, .ref cd0], M4)) rfl rfl rfl ?_
  refine ps_st (S' := (21, [(3, .ref b), (0, .ref cd0), (1, .ref c), (2, .int (nI p0))], [.int (nI p0), .ref b, .ref cd0], M4)) rfl rfl rfl ?_
  refine ps_st (S' := (22, [(3, .ref b), (0, .ref cd0), (1, .ref c), (2, .int (nI p0))], [.int 2, .int (nI p0), .ref b, .ref cd0], M4)) rfl rfl rfl ?_
  refine ps_st (S' := (23, [(3, .ref b), (0, .ref cd0), (1, .ref c), (2, .int (nI p0))], [.int ((nI p0) + 2), .ref b, .ref cd0], M4)) rfl rfl rfl ?_
  rw [nI_add1 (p := p0) (k := 2) (x := 2) rfl (by omega)]
  show pl _ _ _ (_, [(3, .ref b), (0, .ref cd0), (1, .ref c), (2, .int (nI p0))], [.int (nI (p0 + 2)), .ref b, .ref cd0], M4) _
  refine pl_call (a := [.ref b, .int (nI (p0 + 2))]) (rest := [.ref cd0]) rfl rfl rfl (dk_u2 (f := f) (n := n) (b := b) (da := da) (p := (p0 + 2)) h9 h10 (hn) (by omega)) (fun v13 M14 q15 => ?_)
  obtain ⟨rfl, rfl⟩ := q15
  show pl _ _ _ (26, [(3, .ref b), (0, .ref cd0), (1, .ref c), (2, .int (nI p0))], [.int (nI (by2 f (p0 + 2))), .ref cd0], M4) _
  have hu_23 := by2_lt f (p0 + 2)
  refine ps_put (l' := [.int (nI (by2 f p0)), .int (nI (by2 f (p0 + 2))), .int 0, .int 0, .int 0, .null, .int 0, .null, .int 0, .null, .null]) rfl h5 rfl rfl (fun M16 h17 f18 z19 => ?_)
  have h20 := (f18 c (ob_ne h8 h5 (by decide))).trans h8
  have h21 := (f18 b (ob_ne h9 h5 (by decide))).trans h9
  have h22 := (f18 da (Ne.symm (ob_ar h5 h10))).trans h10
  have hF23 := hF11.up (Or.inl (by simp)) f18 (by rw [z19]; exact Nat.le_refl _)
  have tp24 : M16.2.1 = z0 := by rw [z19]; exact tp12
  show pl _ _ _ (29, [(3, .ref b), (0, .ref cd0), (1, .ref c), (2, .int (nI p0))], [], M16) _
  refine ps_st (S' := (30, [(3, .ref b), (0, .ref cd0), (1, .ref c), (2, .int (nI p0))], [.ref cd0], M16)) rfl rfl rfl ?_
  refine ps_st (S' := (31, [(3, .ref b), (0, .ref cd0), (1, .ref c), (2, .int (nI p0))], [.ref b, .ref cd0], M16)) rfl rfl rfl ?_
  refine ps_st (S' := (32, [(3, .ref b), (0, .ref cd0), (1, .ref c), (2, .int (nI p0))], [.int (nI p0), .ref b, .ref cd0], M16)) rfl rfl rfl ?_
  refine ps_st (S' := (33, [(3, .ref b), (0, .ref cd0), (1, .ref c), (2, .int (nI p0))], [.int 4, .int (nI p0), .ref b, .ref cd0], M16)) rfl rfl rfl ?_
  refine ps_st (S' := (34, [(3, .ref b), (0, .ref cd0), (1, .ref c), (2, .int (nI p0))], [.int ((nI p0) + 4), .ref b, .ref cd0], M16)) rfl rfl rfl ?_
  rw [nI_add1 (p := p0) (k := 4) (x := 4) rfl (by omega)]
  show pl _ _ _ (_, [(3, .ref b), (0, .ref cd0), (1, .ref c), (2, .int (nI p0))], [.int (nI (p0 + 4)), .ref b, .ref cd0], M16) _
  refine pl_call (a := [.ref b, .int (nI (p0 + 4))]) (rest := [.ref cd0]) rfl rfl rfl (dk_u4 (f := f) (n := n) (b := b) (da := da) (p := (p0 + 4)) h21 h22 (hn) (by omega)) (fun v25 M26 q27 => ?_)
  obtain ⟨rfl, rfl⟩ := q27
  show pl _ _ _ (37, [(3, .ref b), (0, .ref cd0), (1, .ref c), (2, .int (nI p0))], [.int (nI (by4 f (p0 + 4))), .ref cd0], M16) _
  have hu_34 := by4_lt f (p0 + 4)
  refine ps_put (l' := [.int (nI (by2 f p0)), .int (nI (by2 f (p0 + 2))), .int (nI (by4 f (p0 + 4))), .int 0, .int 0, .null, .int 0, .null, .int 0, .null, .null]) rfl h17 rfl rfl (fun M28 h29 f30 z31 => ?_)
  have h32 := (f30 c (ob_ne h20 h17 (by decide))).trans h20
  have h33 := (f30 b (ob_ne h21 h17 (by decide))).trans h21
  have h34 := (f30 da (Ne.symm (ob_ar h17 h22))).trans h22
  have hF35 := hF23.up (Or.inl (by simp)) f30 (by rw [z31]; exact Nat.le_refl _)
  have tp36 : M28.2.1 = z0 := by rw [z31]; exact tp24
  show pl _ _ _ (40, [(3, .ref b), (0, .ref cd0), (1, .ref c), (2, .int (nI p0))], [], M28) _
  refine ps_st (S' := (41, [(3, .ref b), (0, .ref cd0), (1, .ref c), (2, .int (nI p0))], [.ref cd0], M28)) rfl rfl rfl ?_
  refine ps_st (S' := (42, [(3, .ref b), (0, .ref cd0), (1, .ref c), (2, .int (nI p0))], [.int (nI p0), .ref cd0], M28)) rfl rfl rfl ?_
  refine ps_st (S' := (44, [(3, .ref b), (0, .ref cd0), (1, .ref c), (2, .int (nI p0))], [.int 8, .int (nI p0), .ref cd0], M28)) rfl rfl rfl ?_
  refine ps_st (S' := (45, [(3, .ref b), (0, .ref cd0), (1, .ref c), (2, .int (nI p0))], [.int ((nI p0) + 8), .ref cd0], M28)) rfl rfl rfl ?_
  rw [nI_add1 (p := p0) (k := 8) (x := 8) rfl (by omega)]
  show pl _ _ _ (_, [(3, .ref b), (0, .ref cd0), (1, .ref c), (2, .int (nI p0))], [.int (nI (p0 + 8)), .ref cd0], M28) _
  refine ps_st (S' := (46, [(3, .ref b), (0, .ref cd0), (1, .ref c), (2, .int (nI p0))], [.ref cd0, .int (nI (p0 + 8)), .ref cd0], M28)) rfl rfl rfl ?_
  refine ps_get (S' := (49, [(3, .ref b), (0, .ref cd0), (1, .ref c), (2, .int (nI p0))], [.int (nI (by4 f (p0 + 4))), .int (nI (p0 + 8)), .ref cd0], M28)) rfl h29 rfl rfl ?_
  refine ps_st (S' := (50, [(3, .ref b), (0, .ref cd0), (1, .ref c), (2, .int (nI p0))], [.int ((nI (p0 + 8)) + (nI (by4 f (p0 + 4)))), .ref cd0], M28)) rfl rfl rfl ?_
  rw [nI_add1 (p := p0 + 8) (k := by4 f (p0 + 4)) (x := (nI (by4 f (p0 + 4)))) rfl (by omega)]
  show pl _ _ _ (_, [(3, .ref b), (0, .ref cd0), (1, .ref c), (2, .int (nI p0))], [.int (nI (p0 + 8 + by4 f (p0 + 4))), .ref cd0], M28) _
  refine ps_st (S' := (51, [(3, .ref b), (0, .ref cd0), (1, .ref c), (2, .int (nI p0))], [.int 2, .int (nI (p0 + 8 + by4 f (p0 + 4))), .ref cd0], M28)) rfl rfl rfl ?_
  refine ps_st (S' := (52, [(3, .ref b), (0, .ref cd0), (1, .ref c), (2, .int (nI p0))], [.int ((nI (p0 + 8 + by4 f (p0 + 4))) + 2), .ref cd0], M28)) rfl rfl rfl ?_
  rw [nI_add1 (p := p0 + 8 + by4 f (p0 + 4)) (k := 2) (x := 2) rfl (by omega)]
  show pl _ _ _ (_, [(3, .ref b), (0, .ref cd0), (1, .ref c), (2, .int (nI p0))], [.int (nI (p0 + 8 + by4 f (p0 + 4) + 2)), .ref cd0], M28) _
  refine ps_put (l' := [.int (nI (by2 f p0)), .int (nI (by2 f (p0 + 2))), .int (nI (by4 f (p0 + 4))), .int (nI (p0 + 8 + by4 f (p0 + 4) + 2)), .int 0, .null, .int 0, .null, .int 0, .null, .null]) rfl h29 rfl rfl (fun M37 h38 f39 z40 => ?_)
  have h41 := (f39 c (ob_ne h32 h29 (by decide))).trans h32
  have h42 := (f39 b (ob_ne h33 h29 (by decide))).trans h33
  have h43 := (f39 da (Ne.symm (ob_ar h29 h34))).trans h34
  have hF44 := hF35.up (Or.inl (by simp)) f39 (by rw [z40]; exact Nat.le_refl _)
  have tp45 : M37.2.1 = z0 := by rw [z40]; exact tp36
  show pl _ _ _ (55, [(3, .ref b), (0, .ref cd0), (1, .ref c), (2, .int (nI p0))], [], M37) _
  refine ps_st (S' := (56, [(3, .ref b), (0, .ref cd0), (1, .ref c), (2, .int (nI p0))], [.ref cd0], M37)) rfl rfl rfl ?_
  refine ps_st (S' := (57, [(3, .ref b), (0, .ref cd0), (1, .ref c), (2, .int (nI p0))], [.ref b, .ref cd0], M37)) rfl rfl rfl ?_
  refine ps_st (S' := (58, [(3, .ref b), (0, .ref cd0), (1, .ref c), (2, .int (nI p0))], [.ref cd0, .ref b, .ref cd0], M37)) rfl rfl rfl ?_
  refine ps_get (S' := (61, [(3, .ref b), (0, .ref cd0), (1, .ref c), (2, .int (nI p0))], [.int (nI (p0 + 8 + by4 f (p0 + 4) + 2)), .ref b, .ref cd0], M37)) rfl h38 rfl rfl ?_
  refine ps_st (S' := (62, [(3, .ref b), (0, .ref cd0), (1, .ref c), (2, .int (nI p0))], [.int 2, .int (nI (p0 + 8 + by4 f (p0 + 4) + 2)), .ref b, .ref cd0], M37)) rfl rfl rfl ?_
  refine ps_st (S' := (63, [(3, .ref b), (0, .ref cd0), (1, .ref c), (2, .int (nI p0))], [.int ((nI (p0 + 8 + by4 f (p0 + 4) + 2)) - 2), .ref b, .ref cd0], M37)) rfl rfl rfl ?_
  rw [nI_sub1 (p := p0 + 8 + by4 f (p0 + 4) + 2) (k := 2) (x := 2) rfl (by omega) (by omega)]
  show pl _ _ _ (_, [(3, .ref b), (0, .ref cd0), (1, .ref c), (2, .int (nI p0))], [.int (nI ((p0 + 8 + by4 f (p0 + 4) + 2) - 2)), .ref b, .ref cd0], M37) _
  rw [Nat.add_sub_cancel]
  refine pl_call (a := [.ref b, .int (nI (p0 + 8 + by4 f (p0 + 4)))]) (rest := [.ref cd0]) rfl rfl rfl (dk_u2 (f := f) (n := n) (b := b) (da := da) (p := (p0 + 8 + by4 f (p0 + 4))) h42 h43 (hn) (by omega)) (fun v46 M47 q48 => ?_)
  obtain ⟨rfl, rfl⟩ := q48
  show pl _ _ _ (66, [(3, .ref b), (0, .ref cd0), (1, .ref c), (2, .int (nI p0))], [.int (nI (by2 f (p0 + 8 + by4 f (p0 + 4)))), .ref cd0], M37) _
  have hu_63 := by2_lt f (p0 + 8 + by4 f (p0 + 4))
  refine ps_put (l' := [.int (nI (by2 f p0)), .int (nI (by2 f (p0 + 2))), .int (nI (by4 f (p0 + 4))), .int (nI (p0 + 8 + by4 f (p0 + 4) + 2)), .int (nI (by2 f (p0 + 8 + by4 f (p0 + 4)))), .null, .int 0, .null, .int 0, .null, .null]) rfl h38 rfl rfl (fun M49 h50 f51 z52 => ?_)
  have h53 := (f51 c (ob_ne h41 h38 (by decide))).trans h41
  have h54 := (f51 b (ob_ne h42 h38 (by decide))).trans h42
  have h55 := (f51 da (Ne.symm (ob_ar h38 h43))).trans h43
  have hF56 := hF44.up (Or.inl (by simp)) f51 (by rw [z52]; exact Nat.le_refl _)
  have tp57 : M49.2.1 = z0 := by rw [z52]; exact tp45
  show pl _ _ _ (69, [(3, .ref b), (0, .ref cd0), (1, .ref c), (2, .int (nI p0))], [], M49) _
  refine ps_st (S' := (70, [(3, .ref b), (0, .ref cd0), (1, .ref c), (2, .int (nI p0))], [.ref cd0], M49)) rfl rfl rfl ?_
  refine ps_st (S' := (71, [(3, .ref b), (0, .ref cd0), (1, .ref c), (2, .int (nI p0))], [.ref c, .ref cd0], M49)) rfl rfl rfl ?_
  refine ps_get (S' := (74, [(3, .ref b), (0, .ref cd0), (1, .ref c), (2, .int (nI p0))], [.ref q, .ref cd0], M49)) rfl h53 rfl rfl ?_
  refine ps_put (l' := [.int (nI (by2 f p0)), .int (nI (by2 f (p0 + 2))), .int (nI (by4 f (p0 + 4))), .int (nI (p0 + 8 + by4 f (p0 + 4) + 2)), .int (nI (by2 f (p0 + 8 + by4 f (p0 + 4)))), .ref q, .int 0, .null, .int 0, .null, .null]) rfl h50 rfl rfl (fun M58 h59 f60 z61 => ?_)
  have h62 := (f60 c (ob_ne h53 h50 (by decide))).trans h53
  have h63 := (f60 b (ob_ne h54 h50 (by decide))).trans h54
  have h64 := (f60 da (Ne.symm (ob_ar h50 h55))).trans h55
  have hF65 := hF56.up (Or.inl (by simp)) f60 (by rw [z61]; exact Nat.le_refl _)
  have tp66 : M58.2.1 = z0 := by rw [z61]; exact tp57
  show pl _ _ _ (77, [(3, .ref b), (0, .ref cd0), (1, .ref c), (2, .int (nI p0))], [], M58) _
  refine ps_st (S' := (78, [(3, .ref b), (0, .ref cd0), (1, .ref c), (2, .int (nI p0))], [.ref cd0], M58)) rfl rfl rfl ?_
  refine ps_st (S' := (79, [(3, .ref b), (0, .ref cd0), (1, .ref c), (2, .int (nI p0))], [.ref c, .ref cd0], M58)) rfl rfl rfl ?_
  refine ps_get (S' := (82, [(3, .ref b), (0, .ref cd0), (1, .ref c), (2, .int (nI p0))], [.int (nI mj), .ref cd0], M58)) rfl h62 rfl rfl ?_
  refine ps_put (l' := [.int (nI (by2 f p0)), .int (nI (by2 f (p0 + 2))), .int (nI (by4 f (p0 + 4))), .int (nI (p0 + 8 + by4 f (p0 + 4) + 2)), .int (nI (by2 f (p0 + 8 + by4 f (p0 + 4)))), .ref q, .int (nI mj), .null, .int 0, .null, .null]) rfl h59 rfl rfl (fun M67 h68 f69 z70 => ?_)
  have h71 := (f69 c (ob_ne h62 h59 (by decide))).trans h62
  have h72 := (f69 b (ob_ne h63 h59 (by decide))).trans h63
  have h73 := (f69 da (Ne.symm (ob_ar h59 h64))).trans h64
  have hF74 := hF65.up (Or.inl (by simp)) f69 (by rw [z70]; exact Nat.le_refl _)
  have tp75 : M67.2.1 = z0 := by rw [z70]; exact tp66
  show pl _ _ _ (85, [(3, .ref b), (0, .ref cd0), (1, .ref c), (2, .int (nI p0))], [], M67) _
  refine ps_st (S' := (86, [(3, .ref b), (0, .ref cd0), (1, .ref c), (2, .int (nI p0))], [.ref cd0], M67)) rfl rfl rfl ?_
  refine ps_newz rfl tp75 (fun M76 h77 f78 tp79 => ?_)
  have h80 := (f78 cd0 (show cd0 ≠ z0 by omega)).trans h68
  have h81 := (f78 c (show c ≠ z0 by omega)).trans h71
  have h82 := (f78 b (show b ≠ z0 by omega)).trans h72
  have h83 := (f78 da (show da ≠ z0 by omega)).trans h73
  have hF84 := hF74.up (Or.inr (by omega)) f78 (by omega)
  show pl _ _ _ (89, [(3, .ref b), (0, .ref cd0), (1, .ref c), (2, .int (nI p0))], [.ref z0, .ref cd0], M76) _
  refine ps_st (S' := (90, [(3, .ref b), (0, .ref cd0), (1, .ref c), (2, .int (nI p0))], [.ref z0, .ref z0, .ref cd0], M76)) rfl rfl rfl ?_
  refine ps_st (S' := (91, [(3, .ref b), (0, .ref cd0), (1, .ref c), (2, .int (nI p0))], [.ref b, .ref z0, .ref z0, .ref cd0], M76)) rfl rfl rfl ?_
  refine ps_st (S' := (92, [(3, .ref b), (0, .ref cd0), (1, .ref c), (2, .int (nI p0))], [.int (nI p0), .ref b, .ref z0, .ref z0, .ref cd0], M76)) rfl rfl rfl ?_
  refine ps_st (S' := (94, [(3, .ref b), (0, .ref cd0), (1, .ref c), (2, .int (nI p0))], [.int 8, .int (nI p0), .ref b, .ref z0, .ref z0, .ref cd0], M76)) rfl rfl rfl ?_
  refine ps_st (S' := (95, [(3, .ref b), (0, .ref cd0), (1, .ref c), (2, .int (nI p0))], [.int ((nI p0) + 8), .ref b, .ref z0, .ref z0, .ref cd0], M76)) rfl rfl rfl ?_
  rw [nI_add1 (p := p0) (k := 8) (x := 8) rfl (by omega)]
  show pl _ _ _ (_, [(3, .ref b), (0, .ref cd0), (1, .ref c), (2, .int (nI p0))], [.int (nI (p0 + 8)), .ref b, .ref z0, .ref z0, .ref cd0], M76) _
  refine ps_st (S' := (96, [(3, .ref b), (0, .ref cd0), (1, .ref c), (2, .int (nI p0))], [.ref cd0, .int (nI (p0 + 8)), .ref b, .ref z0, .ref z0, .ref cd0], M76)) rfl rfl rfl ?_
  refine ps_get (S' := (99, [(3, .ref b), (0, .ref cd0), (1, .ref c), (2, .int (nI p0))], [.int (nI (by4 f (p0 + 4))), .int (nI (p0 + 8)), .ref b, .ref z0, .ref z0, .ref cd0], M76)) rfl h80 rfl rfl ?_
  refine pl_call (a := [.ref z0, .ref b, .int (nI (p0 + 8)), .int (nI (by4 f (p0 + 4)))]) (rest := [.ref z0, .ref cd0]) rfl rfl rfl (dk_inst0 (o5 := z0) (b := b) (x1 := (nI (p0 + 8))) (x2 := (nI (by4 f (p0 + 4)))) h77) (fun v85 M86 q87 => ?_)
  obtain ⟨rfl, f88⟩ := q87
  have h90 := (f88.1 cd0 (nin1 (show cd0 ≠ z0 by omega))).trans h80
  have h91 := (f88.1 c (nin1 (show c ≠ z0 by omega))).trans h81
  have h92 := (f88.1 b (nin1 (show b ≠ z0 by omega))).trans h82
  have h93 := (f88.1 da (nin1 (show da ≠ z0 by omega))).trans h83
  have hF94 := hF84.trf f88 (by intro z hz; simp only [List.mem_cons, List.not_mem_nil, or_false] at hz ⊢; try omega)
  have tp95 : M86.2.1 = z0 + 1 := by rw [f88.2]; exact tp79
  show pl _ _ _ (102, [(3, .ref b), (0, .ref cd0), (1, .ref c), (2, .int (nI p0))], [.ref z0, .ref cd0], M86) _
  refine ps_put (l' := [.int (nI (by2 f p0)), .int (nI (by2 f (p0 + 2))), .int (nI (by4 f (p0 + 4))), .int (nI (p0 + 8 + by4 f (p0 + 4) + 2)), .int (nI (by2 f (p0 + 8 + by4 f (p0 + 4)))), .ref q, .int (nI mj), .ref z0, .int 0, .null, .null]) rfl h90 rfl rfl (fun M96 h97 f98 z99 => ?_)
  have h100 := (f98 c (ob_ne h91 h90 (by decide))).trans h91
  have h101 := (f98 b (ob_ne h92 h90 (by decide))).trans h92
  have h102 := (f98 da (Ne.symm (ob_ar h90 h93))).trans h93
  have hF103 := hF94.up (Or.inl (by simp)) f98 (by rw [z99]; exact Nat.le_refl _)
  have tp104 : M96.2.1 = z0 + 1 := by rw [z99]; exact tp95
  show pl _ _ _ (105, [(3, .ref b), (0, .ref cd0), (1, .ref c), (2, .int (nI p0))], [], M96) _
  refine ps_st (S' := (106, [(3, .ref b), (0, .ref cd0), (1, .ref c), (2, .int (nI p0))], [.ref cd0], M96)) rfl rfl rfl ?_
  refine ps_st (S' := (107, [(3, .ref b), (0, .ref cd0), (1, .ref c), (2, .int (nI p0))], [.int 0, .ref cd0], M96)) rfl rfl rfl ?_
  refine ps_put (l' := [.int (nI (by2 f p0)), .int (nI (by2 f (p0 + 2))), .int (nI (by4 f (p0 + 4))), .int (nI (p0 + 8 + by4 f (p0 + 4) + 2)), .int (nI (by2 f (p0 + 8 + by4 f (p0 + 4)))), .ref q, .int (nI mj), .ref z0, .int 0, .null, .null]) rfl h97 rfl rfl (fun M105 h106 f107 z108 => ?_)
  have h109 := (f107 c (ob_ne h100 h97 (by decide))).trans h100
  have h110 := (f107 b (ob_ne h101 h97 (by decide))).trans h101
  have h111 := (f107 da (Ne.symm (ob_ar h97 h102))).trans h102
  have hF112 := hF103.up (Or.inl (by simp)) f107 (by rw [z108]; exact Nat.le_refl _)
  have tp113 : M105.2.1 = z0 + 1 := by rw [z108]; exact tp104
  show pl _ _ _ (110, [(3, .ref b), (0, .ref cd0), (1, .ref c), (2, .int (nI p0))], [], M105) _
  exact ps_ret rfl rfl (⟨rfl, by rw [tp0]; exact h106, hF112, by rw [tp0]; exact tp113⟩)
set_option maxHeartbeats 1000000 in
theorem dk_codeHolds {g : xe_G} {M : mi_H} {f : Nat → Int32} {n N q : Nat} {E : List (Nat × Nat)} {ac c b da vd fr mr fa ic mj na pa : Nat} {mi ru wa k1 k2 k3 k4 k5 k6 k7 : Int32} {a b0 s w p e : Nat} {kn co ex : Int32} {cd : Value} (h_ac : M.1 ac = some (ob 0 [.ref c, .ref b, .ref q, .ref vd, .int (nI s)])) (h_b : M.1 b = some (ob 1 [.ref da])) (h_da : M.1 da = some (ar .byte n f)) (h_c : M.1 c = some (ob 3 [.ref b, .ref q, .int mi, .int (nI mj), .int (nI fa), .int (nI ic), .ref fr, .ref mr, .int (nI na), .int (nI pa), .int k1, .int k2, .int k3, .int k4, .int k5, .int k6, .int k7])) (h_vd : M.1 vd = some (ob 10 [.int ru, .int wa])) (h_a : M.1 a = some (ob 6 [.int (nI b0), .int (nI (by2 f b0)), .int (nI (by2 f (b0 + 2))), .int (nI (by2 f (b0 + 4))), .int (nI (by2 f (b0 + 6))), .int (nI (b0 + 8)), .int kn, .int co, .int (nI w), .int ex, cd])) (hn : n ≤ 65540) (hmj : mj < 65536) (hs : s < 2048) (hw : w < 100000) (he : e ≤ n) (hcd0 : s_cdE f e (p + 6) = some e) (hV : PV g f n N E q M) (l_ac : ac < M.2.1) (l_c : c < M.2.1) (l_b : b < M.2.1) (l_da : da < M.2.1) (l_vd : vd < M.2.1) (l_a : a < M.2.1) (l_q : q < M.2.1) : pt (mT g) 30 [.ref ac, .ref a, .int (nI p)] M (fun v M' => (∃ (e9 : Nat × Nat), (cdS f n E mj w p s = .inl e9) ∧ v = some (.int 0) ∧ M'.1 vd = some (ob 10 [.int (nI e9.1), .int (nI e9.2)]) ∧ gm [ac, vd, a] M M' ∧ M'.2.1 = M.2.1 + 2) ∨ (∃ (s' : Nat), (cdS f n E mj w p s = .inr s') ∧ (s' < 2048) ∧ v = some (.int 1) ∧ M'.1 ac = some (ob 0 [.ref c, .ref b, .ref q, .ref vd, .int (nI s')]) ∧ M'.1 vd = some (ob 10 [.int ru, .int wa]) ∧ M'.1 a = some (ob 6 [.int (nI b0), .int (nI (by2 f b0)), .int (nI (by2 f (b0 + 2))), .int (nI (by2 f (b0 + 4))), .int (nI (by2 f (b0 + 6))), .int (nI (b0 + 8)), .int kn, .int co, .int (nI w), .int ex, .ref (M.2.1)]) ∧ gm [ac, vd, a] M M' ∧ M'.2.1 = M.2.1 + 2)) := by
  refine pt_in (b := mb_30 g) rfl (fun kf => ?_)
  show pl (mT g) kf (mb_30 g).2 (0, [(0, .ref ac), (1, .ref a), (2, .int (nI p))], [], M) _
  have hF : gm [ac, vd, a] M M := gm.rf
  obtain ⟨z0, tp0⟩ : ∃ z0, M.2.1 = z0 := ⟨_, rfl⟩
  have hcd : p + 14 + by4 f (p + 10) + 2 + 8 * by2 f (p + 14 + by4 f (p + 10)) + 2 ≤ e ∧ True ∧ s_atE f e (by2 f (p + 14 + by4 f (p + 10) + 2 + 8 * by2 f (p + 14 + by4 f (p + 10)))) (p + 14 + by4 f (p + 10) + 2 + 8 * by2 f (p + 14 + by4 f (p + 10)) + 2) = some e := s_cdE_in hcd0
  have hw9 := by2_lt f (p + 14 + by4 f (p + 10))
  have LL : ∀ (kf : Nat), (∀ (i : Nat) (M1 : mi_H), (M1.1 ac = some (ob 0 [.ref c, .ref b, .ref q, .ref vd, .int (nI s)])) → (M1.1 b = some (ob 1 [.ref da])) → (M1.1 da = some (ar .byte n f)) → (M1.1 c = some (ob 3 [.ref b, .ref q, .int mi, .int (nI mj), .int (nI fa), .int (nI ic), .ref fr, .ref mr, .int (nI na), .int (nI pa), .int k1, .int k2, .int k3, .int k4, .int k5, .int k6, .int k7])) → (M1.1 vd = some (ob 10 [.int ru, .int wa])) → (M1.1 a = some (ob 6 [.int (nI b0), .int (nI (by2 f b0)), .int (nI (by2 f (b0 + 2))), .int (nI (by2 f (b0 + 4))), .int (nI (by2 f (b0 + 6))), .int (nI (b0 + 8)), .int kn, .int co, .int (nI w), .int ex, cd])) → (M1.1 z0 = some (ob 4 [.int (nI (by2 f (p + 6))), .int (nI (by2 f (p + 8))), .int (nI (by4 f (p + 10))), .int (nI (p + 14 + by4 f (p + 10) + 2)), .int (nI (by2 f (p + 14 + by4 f (p + 10)))), .ref q, .int (nI mj), .ref (z0 + 1), .int 0, .null, .null])) → (PV g f n N E q M1) → (gm [ac, vd, a] M M1) → (M1.2.1 = z0 + 2) → (i ≤ by2 f (p + 14 + by4 f (p + 10))) → (¬ (by4 f (p + 10) < 1 ∨ 65535 < by4 f (p + 10))) → (¬ by2 f (p + 8) < w) → (rwA f E (by4 f (p + 10)) (p + 14 + by4 f (p + 10) + 2) (by2 f (p + 14 + by4 f (p + 10)) - i) i = rwA f E (by4 f (p + 10)) (p + 14 + by4 f (p + 10) + 2) (by2 f (p + 14 + by4 f (p + 10))) 0) →  pl (mT g) kf (mb_30 g).2 (69, [(0, .ref ac), (1, .ref a), (2, .int (nI p)), (3, .ref z0), (4, .int (nI i))], [], M1) (fun v M' => (∃ (e9 : Nat × Nat), (cdS f n E mj w p s = .inl e9) ∧ v = some (.int 0) ∧ M'.1 vd = some (ob 10 [.int (nI e9.1), .int (nI e9.2)]) ∧ gm [ac, vd, a] M M' ∧ M'.2.1 = M.2.1 + 2) ∨ (∃ (s' : Nat), (cdS f n E mj w p s = .inr s') ∧ (s' < 2048) ∧ v = some (.int 1) ∧ M'.1 ac = some (ob 0 [.ref c, .ref b, .ref q, .ref vd, .int (nI s')]) ∧ M'.1 vd = some (ob 10 [.int ru, .int wa]) ∧ M'.1 a = some (ob 6 [.int (nI b0), .int (nI (by2 f b0)), .int (nI (by2 f (b0 + 2))), .int (nI (by2 f (b0 + 4))), .int (nI (by2 f (b0 + 6))), .int (nI (b0 + 8)), .int kn, .int co, .int (nI w), .int ex, .ref (M.2.1)]) ∧ gm [ac, vd, a] M M' ∧ M'.2.1 = M.2.1 + 2))) := by
    intro kf
    induction kf with
    | zero => exact (by intros; exact pl_0)
    | succ kf ih =>
      intro i M1 hl_ac hl_b hl_da hl_c hl_vd hl_a hl_z0 hV1 hF1 tp1 hi h41 h42 hr9
      have hu9 := by2_lt f (p + 14 + by4 f (p + 10))
      refine ps_st1 (S' := (71, [(0, .ref ac), (1, .ref a), (2, .int (nI p)), (3, .ref z0), (4, .int (nI i))], [.int (nI i)], M1)) rfl rfl rfl ?_
      refine ps_st (S' := (72, [(0, .ref ac), (1, .ref a), (2, .int (nI p)), (3, .ref z0), (4, .int (nI i))], [.ref z0, .int (nI i)], M1)) rfl rfl rfl ?_
      refine ps_get (S' := (75, [(0, .ref ac), (1, .ref a), (2, .int (nI p)), (3, .ref z0), (4, .int (nI i))], [.int (nI (by2 f (p + 14 + by4 f (p + 10)))), .int (nI i)], M1)) rfl hl_z0 rfl rfl ?_
      refine ps_if2 (S1 := (113, [(0, .ref ac), (1, .ref a), (2, .int (nI p)), (3, .ref z0), (4, .int (nI i))], [], M1)) (S2 := (78, [(0, .ref ac), (1, .ref a), (2, .int (nI p)), (3, .ref z0), (4, .int (nI i))], [], M1)) rfl rfl rfl (fun c_75 => ?_) (fun c_75 => ?_)
      · have c_75 : (nI (by2 f (p + 14 + by4 f (p + 10)))) ≤ (nI i) := of_decide_eq_true c_75
        have n_75 : by2 f (p + 14 + by4 f (p + 10)) ≤ i := (le_nI (p := by2 f (p + 14 + by4 f (p + 10))) (n := i) (Nat.lt_trans (by2_lt _ _) (by decide)) (by omega)).mp c_75
        refine ps_st (S' := (114, [(0, .ref ac), (1, .ref a), (2, .int (nI p)), (3, .ref z0), (4, .int (nI i))], [.ref a], M1)) rfl rfl rfl ?_
        refine ps_st (S' := (115, [(0, .ref ac), (1, .ref a), (2, .int (nI p)), (3, .ref z0), (4, .int (nI i))], [.ref z0, .ref a], M1)) rfl rfl rfl ?_
        refine ps_put (l' := [.int (nI b0), .int (nI (by2 f b0)), .int (nI (by2 f (b0 + 2))), .int (nI (by2 f (b0 + 4))), .int (nI (by2 f (b0 + 6))), .int (nI (b0 + 8)), .int kn, .int co, .int (nI w), .int ex, .ref z0]) rfl hl_a rfl rfl (fun M1 h2 f3 z4 => ?_)
        have h5 := (f3 ac (ob_ne hl_ac hl_a (by decide))).trans hl_ac
        have h6 := (f3 b (ob_ne hl_b hl_a (by decide))).trans hl_b
        have h7 := (f3 da (Ne.symm (ob_ar hl_a hl_da))).trans hl_da
        have h8 := (f3 c (ob_ne hl_c hl_a (by decide))).trans hl_c
        have h9 := (f3 vd (ob_ne hl_vd hl_a (by decide))).trans hl_vd
        have h10 := (f3 z0 (show z0 ≠ a by omega)).trans hl_z0
        have hV11 := hV1.put hl_a (by decide) f3 z4
        have hF12 := hF1.up (Or.inl (by simp)) f3 (by rw [z4]; exact Nat.le_refl _)
        have tp13 : M1.2.1 = z0 + 2 := by rw [z4]; exact tp1
        show pl _ _ _ (118, [(0, .ref ac), (1, .ref a), (2, .int (nI p)), (3, .ref z0), (4, .int (nI i))], [], M1) _
        refine ps_st (S' := (119, [(0, .ref ac), (1, .ref a), (2, .int (nI p)), (3, .ref z0), (4, .int (nI i))], [.ref ac], M1)) rfl rfl rfl ?_
        refine ps_st (S' := (120, [(0, .ref ac), (1, .ref a), (2, .int (nI p)), (3, .ref z0), (4, .int (nI i))], [.ref z0, .ref ac], M1)) rfl rfl rfl ?_
        refine ps_get (S' := (123, [(0, .ref ac), (1, .ref a), (2, .int (nI p)), (3, .ref z0), (4, .int (nI i))], [.int (nI (p + 14 + by4 f (p + 10) + 2)), .ref ac], M1)) rfl h10 rfl rfl ?_
        refine ps_st (S' := (125, [(0, .ref ac), (1, .ref a), (2, .int (nI p)), (3, .ref z0), (4, .int (nI i))], [.int 8, .int (nI (p + 14 + by4 f (p + 10) + 2)), .ref ac], M1)) rfl rfl rfl ?_
        refine ps_st (S' := (126, [(0, .ref ac), (1, .ref a), (2, .int (nI p)), (3, .ref z0), (4, .int (nI i))], [.ref z0, .int 8, .int (nI (p + 14 + by4 f (p + 10) + 2)), .ref ac], M1)) rfl rfl rfl ?_
        refine ps_get (S' := (129, [(0, .ref ac), (1, .ref a), (2, .int (nI p)), (3, .ref z0), (4, .int (nI i))], [.int (nI (by2 f (p + 14 + by4 f (p + 10)))), .int 8, .int (nI (p + 14 + by4 f (p + 10) + 2)), .ref ac], M1)) rfl h10 rfl rfl ?_
        refine ps_st (S' := (130, [(0, .ref ac), (1, .ref a), (2, .int (nI p)), (3, .ref z0), (4, .int (nI i))], [.int (8 * (nI (by2 f (p + 14 + by4 f (p + 10))))), .int (nI (p + 14 + by4 f (p + 10) + 2)), .ref ac], M1)) rfl rfl rfl ?_
        rw [nI_mul1 (p := 8) (k := by2 f (p + 14 + by4 f (p + 10))) (x := 8) (y := (nI (by2 f (p + 14 + by4 f (p + 10))))) rfl rfl (by omega)]
        show pl _ _ _ (_, [(0, .ref ac), (1, .ref a), (2, .int (nI p)), (3, .ref z0), (4, .int (nI i))], [.int (nI (8 * (by2 f (p + 14 + by4 f (p + 10))))), .int (nI (p + 14 + by4 f (p + 10) + 2)), .ref ac], M1) _
        refine ps_st (S' := (131, [(0, .ref ac), (1, .ref a), (2, .int (nI p)), (3, .ref z0), (4, .int (nI i))], [.int ((nI (p + 14 + by4 f (p + 10) + 2)) + (nI (8 * (by2 f (p + 14 + by4 f (p + 10)))))), .ref ac], M1)) rfl rfl rfl ?_
        rw [nI_add1 (p := p + 14 + by4 f (p + 10) + 2) (k := 8 * (by2 f (p + 14 + by4 f (p + 10)))) (x := (nI (8 * (by2 f (p + 14 + by4 f (p + 10)))))) rfl (by omega)]
        show pl _ _ _ (_, [(0, .ref ac), (1, .ref a), (2, .int (nI p)), (3, .ref z0), (4, .int (nI i))], [.int (nI (p + 14 + by4 f (p + 10) + 2 + 8 * (by2 f (p + 14 + by4 f (p + 10))))), .ref ac], M1) _
        refine pl_call (a := [.ref ac, .int (nI (p + 14 + by4 f (p + 10) + 2 + 8 * (by2 f (p + 14 + by4 f (p + 10)))))]) (rest := []) rfl rfl rfl (dk_codeAttributesHold (f := f) (n := n) (N := N) (q := q) (E := E) (ac := ac) (c := c) (b := b) (da := da) (vd := vd) (fr := fr) (mr := mr) (fa := fa) (ic := ic) (mj := mj) (na := na) (pa := pa) (mi := mi) (ru := ru) (wa := wa) (k1 := k1) (k2 := k2) (k3 := k3) (k4 := k4) (k5 := k5) (k6 := k6) (k7 := k7) (s := s) (p1 := (p + 14 + by4 f (p + 10) + 2 + 8 * (by2 f (p + 14 + by4 f (p + 10))))) (e := e) h5 h6 h7 h8 h9 (hn) (hmj) (by omega) (by omega) (hcd.2.2) (hV11)) (fun v14 M15 q16 => ?_)
        rcases q16 with q16 | q16
        · skip
          obtain ⟨e917, q131_s, rfl, h18, f19⟩ := q16
          have h21 := (f19.1 b (nin2 (ob_ne h6 h5 (by decide)) (ob_ne h6 h9 (by decide)))).trans h6
          have h22 := (f19.1 da (nin2 (Ne.symm (ob_ar h5 h7)) (Ne.symm (ob_ar h9 h7)))).trans h7
          have h23 := (f19.1 c (nin2 (ob_ne h8 h5 (by decide)) (ob_ne h8 h9 (by decide)))).trans h8
          have h24 := (f19.1 a (nin2 (ob_ne h2 h5 (by decide)) (ob_ne h2 h9 (by decide)))).trans h2
          have h25 := (f19.1 z0 (nin2 (show z0 ≠ ac by omega) (show z0 ≠ vd by omega))).trans h10
          have hF26 := hF12.trf f19 (by intro z hz; simp only [List.mem_cons, List.not_mem_nil, or_false] at hz ⊢; try omega)
          have tp27 : M15.2.1 = z0 + 2 := by rw [f19.2]; exact tp13
          have hV28 := hV11.keep f19.gm (n7c h5 (by decide) (n7c h9 (by decide) (n7nil)))
          show pl _ _ _ (134, [(0, .ref ac), (1, .ref a), (2, .int (nI p)), (3, .ref z0), (4, .int (nI i))], [.int 0], M15) _
          exact ps_ret rfl rfl (Or.inl ⟨e917, by
              unfold cdS
              rw [if_neg h41, if_neg h42, if_neg (by rw [← hr9, show by2 f (p + 14 + by4 f (p + 10)) - i = 0 by omega]; exact Nat.one_ne_zero)]
              exact q131_s, rfl, h18, hF26, by rw [tp0]; exact tp27⟩)
        · skip
          obtain ⟨s'29, q131_s, q131_l, rfl, h30, h31, f32⟩ := q16
          have h34 := (f32.1 b (nin2 (ob_ne h6 h5 (by decide)) (ob_ne h6 h9 (by decide)))).trans h6
          have h35 := (f32.1 da (nin2 (Ne.symm (ob_ar h5 h7)) (Ne.symm (ob_ar h9 h7)))).trans h7
          have h36 := (f32.1 c (nin2 (ob_ne h8 h5 (by decide)) (ob_ne h8 h9 (by decide)))).trans h8
          have h37 := (f32.1 a (nin2 (ob_ne h2 h5 (by decide)) (ob_ne h2 h9 (by decide)))).trans h2
          have h38 := (f32.1 z0 (nin2 (show z0 ≠ ac by omega) (show z0 ≠ vd by omega))).trans h10
          have hF39 := hF12.trf f32 (by intro z hz; simp only [List.mem_cons, List.not_mem_nil, or_false] at hz ⊢; try omega)
          have tp40 : M15.2.1 = z0 + 2 := by rw [f32.2]; exact tp13
          have hV41 := hV11.keep f32.gm (n7c h5 (by decide) (n7c h9 (by decide) (n7nil)))
          show pl _ _ _ (134, [(0, .ref ac), (1, .ref a), (2, .int (nI p)), (3, .ref z0), (4, .int (nI i))], [.int 1], M15) _
          exact ps_ret rfl rfl (Or.inr ⟨s'29, by
              unfold cdS
              rw [if_neg h41, if_neg h42, if_neg (by rw [← hr9, show by2 f (p + 14 + by4 f (p + 10)) - i = 0 by omega]; exact Nat.one_ne_zero)]
              exact q131_s, q131_l, rfl, h30, h31, by rw [tp0]; exact h37, hF39, by rw [tp0]; exact tp40⟩)
      · have c_75 : ¬ ((nI (by2 f (p + 14 + by4 f (p + 10)))) ≤ (nI i)) := of_decide_eq_false c_75
        have n_75 : ¬ (by2 f (p + 14 + by4 f (p + 10)) ≤ i) := fun h9 => c_75 ((le_nI (p := by2 f (p + 14 + by4 f (p + 10))) (n := i) (Nat.lt_trans (by2_lt _ _) (by decide)) (by omega)).mpr h9)
        refine ps_st (S' := (79, [(0, .ref ac), (1, .ref a), (2, .int (nI p)), (3, .ref z0), (4, .int (nI i))], [.ref ac], M1)) rfl rfl rfl ?_
        refine ps_st (S' := (80, [(0, .ref ac), (1, .ref a), (2, .int (nI p)), (3, .ref z0), (4, .int (nI i))], [.ref z0, .ref ac], M1)) rfl rfl rfl ?_
        refine ps_st (S' := (81, [(0, .ref ac), (1, .ref a), (2, .int (nI p)), (3, .ref z0), (4, .int (nI i))], [.ref z0, .ref z0, .ref ac], M1)) rfl rfl rfl ?_
        refine ps_get (S' := (84, [(0, .ref ac), (1, .ref a), (2, .int (nI p)), (3, .ref z0), (4, .int (nI i))], [.int (nI (p + 14 + by4 f (p + 10) + 2)), .ref z0, .ref ac], M1)) rfl hl_z0 rfl rfl ?_
        refine ps_st (S' := (86, [(0, .ref ac), (1, .ref a), (2, .int (nI p)), (3, .ref z0), (4, .int (nI i))], [.int 8, .int (nI (p + 14 + by4 f (p + 10) + 2)), .ref z0, .ref ac], M1)) rfl rfl rfl ?_
        refine ps_st (S' := (88, [(0, .ref ac), (1, .ref a), (2, .int (nI p)), (3, .ref z0), (4, .int (nI i))], [.int (nI i), .int 8, .int (nI (p + 14 + by4 f (p + 10) + 2)), .ref z0, .ref ac], M1)) rfl rfl rfl ?_
        refine ps_st (S' := (89, [(0, .ref ac), (1, .ref a), (2, .int (nI p)), (3, .ref z0), (4, .int (nI i))], [.int (8 * (nI i)), .int (nI (p + 14 + by4 f (p + 10) + 2)), .ref z0, .ref ac], M1)) rfl rfl rfl ?_
        rw [nI_mul1 (p := 8) (k := i) (x := 8) (y := (nI i)) rfl rfl (by omega)]
        show pl _ _ _ (_, [(0, .ref ac), (1, .ref a), (2, .int (nI p)), (3, .ref z0), (4, .int (nI i))], [.int (nI (8 * i)), .int (nI (p + 14 + by4 f (p + 10) + 2)), .ref z0, .ref ac], M1) _
        refine ps_st (S' := (90, [(0, .ref ac), (1, .ref a), (2, .int (nI p)), (3, .ref z0), (4, .int (nI i))], [.int ((nI (p + 14 + by4 f (p + 10) + 2)) + (nI (8 * i))), .ref z0, .ref ac], M1)) rfl rfl rfl ?_
        rw [nI_add1 (p := p + 14 + by4 f (p + 10) + 2) (k := 8 * i) (x := (nI (8 * i))) rfl (by omega)]
        show pl _ _ _ (_, [(0, .ref ac), (1, .ref a), (2, .int (nI p)), (3, .ref z0), (4, .int (nI i))], [.int (nI (p + 14 + by4 f (p + 10) + 2 + 8 * i)), .ref z0, .ref ac], M1) _
        refine pl_call (a := [.ref ac, .ref z0, .int (nI (p + 14 + by4 f (p + 10) + 2 + 8 * i))]) (rest := []) rfl rfl rfl (dk_rowHolds (f := f) (n := n) (N := N) (q := q) (E := E) (ac := ac) (c := c) (b := b) (da := da) (vd := vd) (fr := fr) (mr := mr) (fa := fa) (ic := ic) (mj := mj) (na := na) (pa := pa) (mi := mi) (ru := ru) (wa := wa) (s1 := (nI s)) (k1 := k1) (k2 := k2) (k3 := k3) (k4 := k4) (k5 := k5) (k6 := k6) (k7 := k7) (cd0 := z0) (p := (p + 14 + by4 f (p + 10) + 2 + 8 * i)) (len := (by4 f (p + 10))) (y1 := (nI (by2 f (p + 6)))) (y2 := (nI (by2 f (p + 8)))) (y3 := (nI (p + 14 + by4 f (p + 10) + 2))) (y4 := (nI (by2 f (p + 14 + by4 f (p + 10))))) (y6 := (nI mj)) (y8 := 0) (v5 := .ref q) (v7 := .ref (z0 + 1)) (v9 := .null) (v10 := .null) hl_ac hl_b hl_da hl_z0 (hn) (by omega) (by omega) (hV1)) (fun v42 M43 q44 => ?_)
        obtain ⟨rfl, rfl⟩ := q44
        show pl _ _ _ (93, [(0, .ref ac), (1, .ref a), (2, .int (nI p)), (3, .ref z0), (4, .int (nI i))], [.int (nI (rwN f E (by4 f (p + 10)) (p + 14 + by4 f (p + 10) + 2 + 8 * i)))], M1) _
        refine ps_if (S1 := (107, [(0, .ref ac), (1, .ref a), (2, .int (nI p)), (3, .ref z0), (4, .int (nI i))], [], M1)) (S2 := (96, [(0, .ref ac), (1, .ref a), (2, .int (nI p)), (3, .ref z0), (4, .int (nI i))], [], M1)) rfl rfl rfl (fun c_93 => ?_) (fun c_93 => ?_)
        · have c_93 : ¬ (nI (rwN f E (by4 f (p + 10)) (p + 14 + by4 f (p + 10) + 2 + 8 * i))) = 0 := of_decide_eq_true c_93
          have n_93 : ¬ (rwN f E (by4 f (p + 10)) (p + 14 + by4 f (p + 10) + 2 + 8 * i) = 0) := fun h9 => c_93 ((eq_nI (p := rwN f E (by4 f (p + 10)) (p + 14 + by4 f (p + 10) + 2 + 8 * i)) (n := 0) (Nat.lt_trans (le1_rw _ _ _ _) (by decide)) (by decide)).mpr h9)
          refine ps_st (S' := (110, [(4, .int ((nI i) + 1)), (0, .ref ac), (1, .ref a), (2, .int (nI p)), (3, .ref z0)], [], M1)) rfl rfl rfl ?_
          rw [nI_add1 (p := i) (k := 1) (x := 1) rfl (by omega)]
          show pl _ _ _ (_, [(4, .int (nI (i + 1))), (0, .ref ac), (1, .ref a), (2, .int (nI p)), (3, .ref z0)], [], M1) _
          refine ps_st (S' := (69, [(0, .ref ac), (1, .ref a), (2, .int (nI p)), (3, .ref z0), (4, .int (nI (i + 1)))], [], M1)) rfl rfl rfl ?_
          exact ih (i + 1) M1 hl_ac hl_b hl_da hl_c hl_vd hl_a hl_z0 hV1 hF1 (tp1) (by omega) (h41) (h42) (by
              rw [← hr9, rwA_st (i := i) (by omega), if_neg (by omega)])
        · have c_93 : ¬ (¬ (nI (rwN f E (by4 f (p + 10)) (p + 14 + by4 f (p + 10) + 2 + 8 * i))) = 0) := of_decide_eq_false c_93
          have n_93 : rwN f E (by4 f (p + 10)) (p + 14 + by4 f (p + 10) + 2 + 8 * i) = 0 := (eq_nI (p := rwN f E (by4 f (p + 10)) (p + 14 + by4 f (p + 10) + 2 + 8 * i)) (n := 0) (Nat.lt_trans (le1_rw _ _ _ _) (by decide)) (by decide)).mp (Decidable.not_not.mp c_93)
          refine ps_st (S' := (97, [(0, .ref ac), (1, .ref a), (2, .int (nI p)), (3, .ref z0), (4, .int (nI i))], [.ref ac], M1)) rfl rfl rfl ?_
          refine ps_get (S' := (100, [(0, .ref ac), (1, .ref a), (2, .int (nI p)), (3, .ref z0), (4, .int (nI i))], [.ref vd], M1)) rfl hl_ac rfl rfl ?_
          refine ps_st (S' := (102, [(0, .ref ac), (1, .ref a), (2, .int (nI p)), (3, .ref z0), (4, .int (nI i))], [.int 43, .ref vd], M1)) rfl rfl rfl ?_
          refine ps_st (S' := (103, [(0, .ref ac), (1, .ref a), (2, .int (nI p)), (3, .ref z0), (4, .int (nI i))], [.int (nI p), .int 43, .ref vd], M1)) rfl rfl rfl ?_
          refine pl_call (a := [.ref vd, .int 43, .int (nI p)]) (rest := []) rfl rfl rfl (dk_wrong (vd := vd) (ru := ru) (wa := wa) (x1 := 43) (x2 := (nI p)) hl_vd) (fun v45 M46 q47 => ?_)
          obtain ⟨rfl, h48, f49⟩ := q47
          have h51 := (f49.1 ac (nin1 (ob_ne hl_ac hl_vd (by decide)))).trans hl_ac
          have h52 := (f49.1 b (nin1 (ob_ne hl_b hl_vd (by decide)))).trans hl_b
          have h53 := (f49.1 da (nin1 (Ne.symm (ob_ar hl_vd hl_da)))).trans hl_da
          have h54 := (f49.1 c (nin1 (ob_ne hl_c hl_vd (by decide)))).trans hl_c
          have h55 := (f49.1 a (nin1 (ob_ne hl_a hl_vd (by decide)))).trans hl_a
          have h56 := (f49.1 z0 (nin1 (show z0 ≠ vd by omega))).trans hl_z0
          have hF57 := hF1.trf f49 (by intro z hz; simp only [List.mem_cons, List.not_mem_nil, or_false] at hz ⊢; try omega)
          have tp58 : M46.2.1 = z0 + 2 := by rw [f49.2]; exact tp1
          have hV59 := hV1.keep f49.gm (n7c hl_vd (by decide) (n7nil))
          show pl _ _ _ (106, [(0, .ref ac), (1, .ref a), (2, .int (nI p)), (3, .ref z0), (4, .int (nI i))], [.int 0], M46) _
          exact ps_ret rfl rfl (Or.inl ⟨(43, p), by
              unfold cdS
              rw [if_neg h41, if_neg h42, if_pos (by rw [← hr9, rwA_st (i := i) (by omega), if_pos (by omega)])], rfl, h48, hF57, by rw [tp0]; exact tp58⟩)
  refine ps_newz rfl tp0 (fun M60 h61 f62 tp63 => ?_)
  have h64 := (f62 ac (show ac ≠ z0 by omega)).trans h_ac
  have h65 := (f62 b (show b ≠ z0 by omega)).trans h_b
  have h66 := (f62 da (show da ≠ z0 by omega)).trans h_da
  have h67 := (f62 c (show c ≠ z0 by omega)).trans h_c
  have h68 := (f62 vd (show vd ≠ z0 by omega)).trans h_vd
  have h69 := (f62 a (show a ≠ z0 by omega)).trans h_a
  have hV70 := hV.new tp0 f62 tp63
  have hF71 := hF.up (Or.inr (by omega)) f62 (by omega)
  show pl _ _ _ (3, [(0, .ref ac), (1, .ref a), (2, .int (nI p))], [.ref z0], M60) _
  refine ps_st (S' := (4, [(0, .ref ac), (1, .ref a), (2, .int (nI p))], [.ref z0, .ref z0], M60)) rfl rfl rfl ?_
  refine ps_st (S' := (5, [(0, .ref ac), (1, .ref a), (2, .int (nI p))], [.ref ac, .ref z0, .ref z0], M60)) rfl rfl rfl ?_
  refine ps_get (S' := (8, [(0, .ref ac), (1, .ref a), (2, .int (nI p))], [.ref c, .ref z0, .ref z0], M60)) rfl h64 rfl rfl ?_
  refine ps_st (S' := (9, [(0, .ref ac), (1, .ref a), (2, .int (nI p))], [.int (nI p), .ref c, .ref z0, .ref z0], M60)) rfl rfl rfl ?_
  refine ps_st (S' := (11, [(0, .ref ac), (1, .ref a), (2, .int (nI p))], [.int 6, .int (nI p), .ref c, .ref z0, .ref z0], M60)) rfl rfl rfl ?_
  refine ps_st (S' := (12, [(0, .ref ac), (1, .ref a), (2, .int (nI p))], [.int ((nI p) + 6), .ref c, .ref z0, .ref z0], M60)) rfl rfl rfl ?_
  rw [nI_add1 (p := p) (k := 6) (x := 6) rfl (by omega)]
  show pl _ _ _ (_, [(0, .ref ac), (1, .ref a), (2, .int (nI p))], [.int (nI (p + 6)), .ref c, .ref z0, .ref z0], M60) _
  refine pl_call (a := [.ref z0, .ref c, .int (nI (p + 6))]) (rest := [.ref z0]) rfl rfl rfl (dk_code0 (f := f) (n := n) (q := q) (c := c) (b := b) (da := da) (fr := fr) (mr := mr) (fa := fa) (ic := ic) (mj := mj) (na := na) (pa := pa) (cd0 := z0) (p0 := (p + 6)) (mi := mi) (k1 := k1) (k2 := k2) (k3 := k3) (k4 := k4) (k5 := k5) (k6 := k6) (k7 := k7) h61 h67 h65 h66 (hn) (show p + 14 + by4 f (p + 10) + 2 ≤ n by omega) (by omega) (by omega) (by omega) (by omega)) (fun v72 M73 q74 => ?_)
  obtain ⟨rfl, h75, f76, tp77⟩ := q74
  rw [tp63] at h75 tp77
  have h78 := (f76.1 ac (by omega) (nin1 (show ac ≠ z0 by omega))).trans h64
  have h79 := (f76.1 b (by omega) (nin1 (show b ≠ z0 by omega))).trans h65
  have h80 := (f76.1 da (by omega) (nin1 (show da ≠ z0 by omega))).trans h66
  have h81 := (f76.1 c (by omega) (nin1 (show c ≠ z0 by omega))).trans h67
  have h82 := (f76.1 vd (by omega) (nin1 (show vd ≠ z0 by omega))).trans h68
  have h83 := (f76.1 a (by omega) (nin1 (show a ≠ z0 by omega))).trans h69
  have hF84 := hF71.tr f76 (by intro z hz; simp only [List.mem_cons, List.not_mem_nil, or_false] at hz ⊢; try omega)
  have hV85 := hV70.keep f76 (n7c h61 (by decide) (n7nil))
  show pl _ _ _ (15, [(0, .ref ac), (1, .ref a), (2, .int (nI p))], [.ref z0], M73) _
  refine ps_st (S' := (16, [(3, .ref z0), (0, .ref ac), (1, .ref a), (2, .int (nI p))], [], M73)) rfl rfl rfl ?_
  refine ps_st (S' := (17, [(3, .ref z0), (0, .ref ac), (1, .ref a), (2, .int (nI p))], [.ref z0], M73)) rfl rfl rfl ?_
  refine ps_get (S' := (20, [(3, .ref z0), (0, .ref ac), (1, .ref a), (2, .int (nI p))], [.int (nI (by4 f (p + 10)))], M73)) rfl h75 rfl rfl ?_
  refine ps_st (S' := (21, [(3, .ref z0), (0, .ref ac), (1, .ref a), (2, .int (nI p))], [.int 1, .int (nI (by4 f (p + 10)))], M73)) rfl rfl rfl ?_
  refine ps_if2 (S1 := (33, [(0, .ref ac), (2, .int (nI p))], [], M73)) (S2 := (24, [(3, .ref z0), (0, .ref ac), (1, .ref a), (2, .int (nI p))], [], M73)) rfl rfl rfl (fun c_21 => ?_) (fun c_21 => ?_)
  · have c_21 : (nI (by4 f (p + 10))) < 1 := of_decide_eq_true c_21
    have n_21 : by4 f (p + 10) < 1 := (lt_nI (p := by4 f (p + 10)) (n := 1) (by omega) (by decide)).mp c_21
    refine ps_st (S' := (34, [(0, .ref ac), (2, .int (nI p))], [.ref ac], M73)) rfl rfl rfl ?_
    refine ps_get (S' := (37, [(0, .ref ac), (2, .int (nI p))], [.ref vd], M73)) rfl h78 rfl rfl ?_
    refine ps_st (S' := (39, [(0, .ref ac), (2, .int (nI p))], [.int 41, .ref vd], M73)) rfl rfl rfl ?_
    refine ps_st (S' := (40, [(0, .ref ac), (2, .int (nI p))], [.int (nI p), .int 41, .ref vd], M73)) rfl rfl rfl ?_
    refine pl_call (a := [.ref vd, .int 41, .int (nI p)]) (rest := []) rfl rfl rfl (dk_wrong (vd := vd) (ru := ru) (wa := wa) (x1 := 41) (x2 := (nI p)) h82) (fun v86 M87 q88 => ?_)
    obtain ⟨rfl, h89, f90⟩ := q88
    have h92 := (f90.1 ac (nin1 (ob_ne h78 h82 (by decide)))).trans h78
    have h93 := (f90.1 b (nin1 (ob_ne h79 h82 (by decide)))).trans h79
    have h94 := (f90.1 da (nin1 (Ne.symm (ob_ar h82 h80)))).trans h80
    have h95 := (f90.1 c (nin1 (ob_ne h81 h82 (by decide)))).trans h81
    have h96 := (f90.1 a (nin1 (ob_ne h83 h82 (by decide)))).trans h83
    have h97 := (f90.1 z0 (nin1 (show z0 ≠ vd by omega))).trans h75
    have hF98 := hF84.trf f90 (by intro z hz; simp only [List.mem_cons, List.not_mem_nil, or_false] at hz ⊢; try omega)
    have tp99 : M87.2.1 = z0 + 2 := by rw [f90.2]; exact tp77
    have hV100 := hV85.keep f90.gm (n7c h82 (by decide) (n7nil))
    show pl _ _ _ (43, [(0, .ref ac), (2, .int (nI p))], [.int 0], M87) _
    exact ps_ret rfl rfl (Or.inl ⟨(41, p), by
        unfold cdS
        first | ((repeat first | rw [if_pos (by omega)] | rw [if_neg (by omega)]) <;> first | rfl | omega) | ((repeat' split) <;> first | rfl | (exfalso; omega) | omega), rfl, h89, hF98, by rw [tp0]; exact tp99⟩)
  · have c_21 : ¬ ((nI (by4 f (p + 10))) < 1) := of_decide_eq_false c_21
    have n_21 : ¬ (by4 f (p + 10) < 1) := fun h9 => c_21 ((lt_nI (p := by4 f (p + 10)) (n := 1) (by omega) (by decide)).mpr h9)
    refine ps_st (S' := (25, [(3, .ref z0), (0, .ref ac), (1, .ref a), (2, .int (nI p))], [.ref z0], M73)) rfl rfl rfl ?_
    refine ps_get (S' := (28, [(3, .ref z0), (0, .ref ac), (1, .ref a), (2, .int (nI p))], [.int (nI (by4 f (p + 10)))], M73)) rfl h75 rfl rfl ?_
    refine ps_st (S' := (30, [(3, .ref z0), (0, .ref ac), (1, .ref a), (2, .int (nI p))], [.int 65535, .int (nI (by4 f (p + 10)))], M73)) rfl rfl rfl ?_
    refine ps_if2 (S1 := (44, [(3, .ref z0), (0, .ref ac), (1, .ref a), (2, .int (nI p))], [], M73)) (S2 := (33, [(0, .ref ac), (2, .int (nI p))], [], M73)) rfl rfl rfl (fun c_30 => ?_) (fun c_30 => ?_)
    · have c_30 : (nI (by4 f (p + 10))) ≤ 65535 := of_decide_eq_true c_30
      have n_30 : by4 f (p + 10) ≤ 65535 := (le_nI (p := by4 f (p + 10)) (n := 65535) (by omega) (by decide)).mp c_30
      refine ps_st (S' := (45, [(3, .ref z0), (0, .ref ac), (1, .ref a), (2, .int (nI p))], [.ref z0], M73)) rfl rfl rfl ?_
      refine ps_get (S' := (48, [(3, .ref z0), (0, .ref ac), (1, .ref a), (2, .int (nI p))], [.int (nI (by2 f (p + 8)))], M73)) rfl h75 rfl rfl ?_
      refine ps_st (S' := (49, [(3, .ref z0), (0, .ref ac), (1, .ref a), (2, .int (nI p))], [.ref a, .int (nI (by2 f (p + 8)))], M73)) rfl rfl rfl ?_
      refine ps_get (S' := (52, [(3, .ref z0), (0, .ref ac), (1, .ref a), (2, .int (nI p))], [.int (nI w), .int (nI (by2 f (p + 8)))], M73)) rfl h83 rfl rfl ?_
      refine ps_if2 (S1 := (66, [(3, .ref z0), (0, .ref ac), (1, .ref a), (2, .int (nI p))], [], M73)) (S2 := (55, [(3, .ref z0), (0, .ref ac), (1, .ref a), (2, .int (nI p))], [], M73)) rfl rfl rfl (fun c_52 => ?_) (fun c_52 => ?_)
      · have c_52 : (nI w) ≤ (nI (by2 f (p + 8))) := of_decide_eq_true c_52
        have n_52 : w ≤ by2 f (p + 8) := (le_nI (p := w) (n := by2 f (p + 8)) (by omega) (Nat.lt_trans (by2_lt _ _) (by decide))).mp c_52
        refine ps_st (S' := (67, [(3, .ref z0), (0, .ref ac), (1, .ref a), (2, .int (nI p))], [.int 0], M73)) rfl rfl rfl ?_
        refine ps_st (S' := (69, [(0, .ref ac), (1, .ref a), (2, .int (nI p)), (3, .ref z0), (4, .int 0)], [], M73)) rfl rfl rfl ?_
        exact (LL kf) (0) M73 h78 h79 h80 h81 h82 h83 h75 hV85 hF84 (tp77) (by omega) (by omega) (by omega) (rfl)
      · have c_52 : ¬ ((nI w) ≤ (nI (by2 f (p + 8)))) := of_decide_eq_false c_52
        have n_52 : ¬ (w ≤ by2 f (p + 8)) := fun h9 => c_52 ((le_nI (p := w) (n := by2 f (p + 8)) (by omega) (Nat.lt_trans (by2_lt _ _) (by decide))).mpr h9)
        refine ps_st (S' := (56, [(3, .ref z0), (0, .ref ac), (1, .ref a), (2, .int (nI p))], [.ref ac], M73)) rfl rfl rfl ?_
        refine ps_get (S' := (59, [(3, .ref z0), (0, .ref ac), (1, .ref a), (2, .int (nI p))], [.ref vd], M73)) rfl h78 rfl rfl ?_
        refine ps_st (S' := (61, [(3, .ref z0), (0, .ref ac), (1, .ref a), (2, .int (nI p))], [.int 42, .ref vd], M73)) rfl rfl rfl ?_
        refine ps_st (S' := (62, [(3, .ref z0), (0, .ref ac), (1, .ref a), (2, .int (nI p))], [.int (nI p), .int 42, .ref vd], M73)) rfl rfl rfl ?_
        refine pl_call (a := [.ref vd, .int 42, .int (nI p)]) (rest := []) rfl rfl rfl (dk_wrong (vd := vd) (ru := ru) (wa := wa) (x1 := 42) (x2 := (nI p)) h82) (fun v101 M102 q103 => ?_)
        obtain ⟨rfl, h104, f105⟩ := q103
        have h107 := (f105.1 ac (nin1 (ob_ne h78 h82 (by decide)))).trans h78
        have h108 := (f105.1 b (nin1 (ob_ne h79 h82 (by decide)))).trans h79
        have h109 := (f105.1 da (nin1 (Ne.symm (ob_ar h82 h80)))).trans h80
        have h110 := (f105.1 c (nin1 (ob_ne h81 h82 (by decide)))).trans h81
        have h111 := (f105.1 a (nin1 (ob_ne h83 h82 (by decide)))).trans h83
        have h112 := (f105.1 z0 (nin1 (show z0 ≠ vd by omega))).trans h75
        have hF113 := hF84.trf f105 (by intro z hz; simp only [List.mem_cons, List.not_mem_nil, or_false] at hz ⊢; try omega)
        have tp114 : M102.2.1 = z0 + 2 := by rw [f105.2]; exact tp77
        have hV115 := hV85.keep f105.gm (n7c h82 (by decide) (n7nil))
        show pl _ _ _ (65, [(3, .ref z0), (0, .ref ac), (1, .ref a), (2, .int (nI p))], [.int 0], M102) _
        exact ps_ret rfl rfl (Or.inl ⟨(42, p), by
            unfold cdS
            first | ((repeat first | rw [if_pos (by omega)] | rw [if_neg (by omega)]) <;> first | rfl | omega) | ((repeat' split) <;> first | rfl | (exfalso; omega) | omega), rfl, h104, hF113, by rw [tp0]; exact tp114⟩)
    · have c_30 : ¬ ((nI (by4 f (p + 10))) ≤ 65535) := of_decide_eq_false c_30
      have n_30 : ¬ (by4 f (p + 10) ≤ 65535) := fun h9 => c_30 ((le_nI (p := by4 f (p + 10)) (n := 65535) (by omega) (by decide)).mpr h9)
      refine ps_st (S' := (34, [(0, .ref ac), (2, .int (nI p))], [.ref ac], M73)) rfl rfl rfl ?_
      refine ps_get (S' := (37, [(0, .ref ac), (2, .int (nI p))], [.ref vd], M73)) rfl h78 rfl rfl ?_
      refine ps_st (S' := (39, [(0, .ref ac), (2, .int (nI p))], [.int 41, .ref vd], M73)) rfl rfl rfl ?_
      refine ps_st (S' := (40, [(0, .ref ac), (2, .int (nI p))], [.int (nI p), .int 41, .ref vd], M73)) rfl rfl rfl ?_
      refine pl_call (a := [.ref vd, .int 41, .int (nI p)]) (rest := []) rfl rfl rfl (dk_wrong (vd := vd) (ru := ru) (wa := wa) (x1 := 41) (x2 := (nI p)) h82) (fun v116 M117 q118 => ?_)
      obtain ⟨rfl, h119, f120⟩ := q118
      have h122 := (f120.1 ac (nin1 (ob_ne h78 h82 (by decide)))).trans h78
      have h123 := (f120.1 b (nin1 (ob_ne h79 h82 (by decide)))).trans h79
      have h124 := (f120.1 da (nin1 (Ne.symm (ob_ar h82 h80)))).trans h80
      have h125 := (f120.1 c (nin1 (ob_ne h81 h82 (by decide)))).trans h81
      have h126 := (f120.1 a (nin1 (ob_ne h83 h82 (by decide)))).trans h83
      have h127 := (f120.1 z0 (nin1 (show z0 ≠ vd by omega))).trans h75
      have hF128 := hF84.trf f120 (by intro z hz; simp only [List.mem_cons, List.not_mem_nil, or_false] at hz ⊢; try omega)
      have tp129 : M117.2.1 = z0 + 2 := by rw [f120.2]; exact tp77
      have hV130 := hV85.keep f120.gm (n7c h82 (by decide) (n7nil))
      show pl _ _ _ (43, [(0, .ref ac), (2, .int (nI p))], [.int 0], M117) _
      exact ps_ret rfl rfl (Or.inl ⟨(41, p), by
          unfold cdS
          first | ((repeat first | rw [if_pos (by omega)] | rw [if_neg (by omega)]) <;> first | rfl | omega) | ((repeat' split) <;> first | rfl | (exfalso; omega) | omega), rfl, h119, hF128, by rw [tp0]; exact tp129⟩)
end
section
/-! attributes: the loops over them (laid by wip/p4/d14.py) -/
section KUA
/-- what a class's attributes tell: how many are known, where the bootstraps are, how many inner classes, members of the nest, permitted subclasses, components -/
abbrev KT : Type := Nat × Nat × Nat × Nat × Nat × Int32
def stU (f : Nat → Int32) (k p : Nat) (K : KT) : KT := (if k = 0 then K.1 else K.1 + 1, if k = 6 then p + 8 else K.2.1, if k = 5 then by2 f (p + 6) else K.2.2.1, if k = 8 then by2 f (p + 6) else K.2.2.2.1, if k = 10 then by2 f (p + 6) else K.2.2.2.2.1, if k = 9 then (nI (by2 f (p + 6))) else K.2.2.2.2.2)
def clU (f : Nat → Int32) (n : Nat) (E : List (Nat × Nat)) (mj : Nat) : Nat → Nat → KT → KT
  | 0, _, K => K
  | r + 1, p, K => clU f n E mj r (p + 6 + by4 f (p + 2)) (stU f (ckN f n E mj (by2 f p)) p K)
theorem clU_st {f : Nat → Int32} {n : Nat} {E : List (Nat × Nat)} {mj c i p : Nat} {K : KT} (h : i < c) : clU f n E mj (c - i) p K = clU f n E mj (c - (i + 1)) (p + 6 + by4 f (p + 2)) (stU f (ckN f n E mj (by2 f p)) p K) := by
  rw [show c - i = (c - (i + 1)) + 1 by omega]
  rfl
/-- how many of the bits 0 to 10 are set -/
def popN (s : Nat) : Nat := sb s 0 + sb s 1 + sb s 2 + sb s 3 + sb s 4 + sb s 5 + sb s 6 + sb s 7 + sb s 8 + sb s 9 + sb s 10
theorem pop_so {s k : Nat} (hk : k < 11) (h0 : sb s k = 0) : popN (so s k) = popN s + 1 := by
  unfold popN
  simp only [sb_so]
  rcases (show k = 0 ∨ k = 1 ∨ k = 2 ∨ k = 3 ∨ k = 4 ∨ k = 5 ∨ k = 6 ∨ k = 7 ∨ k = 8 ∨ k = 9 ∨ k = 10 by omega) with rfl | rfl | rfl | rfl | rfl | rfl | rfl | rfl | rfl | rfl | rfl
  all_goals
    rw [h0]
    simp
  all_goals omega
theorem nw_pop {f : Nat → Int32} {E : List (Nat × Nat)} {s k p s' : Nat} (h : nwS f E s k p = .inr s') (hk : k < 11) : popN s' = if k = 0 then popN s else popN s + 1 := by
  unfold nwS at h
  split at h
  · cases h
  · split at h
    · rename_i h1
      cases h
      rw [if_pos h1]
    · rename_i h1
      split at h
      · cases h
      · rename_i h2
        cases h
        rw [if_neg h1]
        exact pop_so hk (Decidable.not_not.mp h2)
theorem stU_k {f : Nat → Int32} {k p : Nat} {K : KT} (h : ¬ k = 0) : (stU f k p K).1 = K.1 + 1 := if_neg h
theorem stU_0 {f : Nat → Int32} {p : Nat} {K : KT} : stU f 0 p K = K := by
  unfold stU
  rw [if_pos rfl, if_neg (by decide), if_neg (by decide), if_neg (by decide), if_neg (by decide), if_neg (by decide)]
/-- where the reference's bootstraps begin, with their number -/
def b7 (K : KT) : Int32 := if K.2.1 = 0 then -1 else nI (K.2.1 - 2)
theorem b7_st {f : Nat → Int32} {k p : Nat} {K : KT} : b7 (stU f k p K) = if k = 6 then (nI (p + 6)) else b7 K := by
  unfold b7
  show (if (if k = 6 then p + 8 else K.2.1) = 0 then (-1 : Int32) else nI ((if k = 6 then p + 8 else K.2.1) - 2)) = _
  by_cases h : k = 6
  · rw [if_pos h, if_pos h, if_neg (by omega)]
    rfl
  · rw [if_neg h, if_neg h]
end KUA
set_option maxHeartbeats 1000000 in
theorem dk_recordHolds {g : xe_G} {M : mi_H} {f : Nat → Int32} {n N q : Nat} {E : List (Nat × Nat)} {ac c b da vd fr mr fa ic mj na pa : Nat} {mi ru wa s1 k1 k2 k3 k4 k5 k6 : Int32} {p ct e : Nat} (h_ac : M.1 ac = some (ob 0 [.ref c, .ref b, .ref q, .ref vd, .int s1])) (h_b : M.1 b = some (ob 1 [.ref da])) (h_da : M.1 da = some (ar .byte n f)) (h_c : M.1 c = some (ob 3 [.ref b, .ref q, .int mi, .int (nI mj), .int (nI fa), .int (nI ic), .ref fr, .ref mr, .int (nI na), .int (nI pa), .int k1, .int k2, .int k3, .int k4, .int k5, .int k6, .int (nI ct)])) (h_vd : M.1 vd = some (ob 10 [.int ru, .int wa])) (hn : n ≤ 65540) (hct : ct < 65536) (he : e ≤ n) (hp : p < 70000) (hf0 : s_rcE f e ct (p + 8) = some e) (hV : PV g f n N E q M) : pt (mT g) 42 [.ref ac, .int (nI p)] M (fun v M' => ((rcS f n E p ct (p + 8) = none) ∧ v = some (.int 1) ∧ M'.1 vd = some (ob 10 [.int ru, .int wa]) ∧ fm [vd] M M') ∨ (∃ (e9 : Nat × Nat), (rcS f n E p ct (p + 8) = some e9) ∧ v = some (.int 0) ∧ M'.1 vd = some (ob 10 [.int (nI e9.1), .int (nI e9.2)]) ∧ fm [vd] M M')) := by
  refine pt_in (b := mb_42 g) rfl (fun kf => ?_)
  show pl (mT g) kf (mb_42 g).2 (0, [(0, .ref ac), (1, .int (nI p))], [], M) _
  have hF : fm [vd] M M := fm.rf
  have LL : ∀ (kf : Nat), (∀ (i x : Nat) (M1 : mi_H), (M1.1 ac = some (ob 0 [.ref c, .ref b, .ref q, .ref vd, .int s1])) → (M1.1 b = some (ob 1 [.ref da])) → (M1.1 da = some (ar .byte n f)) → (M1.1 c = some (ob 3 [.ref b, .ref q, .int mi, .int (nI mj), .int (nI fa), .int (nI ic), .ref fr, .ref mr, .int (nI na), .int (nI pa), .int k1, .int k2, .int k3, .int k4, .int k5, .int k6, .int (nI ct)])) → (M1.1 vd = some (ob 10 [.int ru, .int wa])) → (PV g f n N E q M1) → (fm [vd] M M1) → (i ≤ ct) → (s_rcE f e (ct - i) x = some e) → (rcS f n E p (ct - i) x = rcS f n E p ct (p + 8)) →  pl (mT g) kf (mb_42 g).2 (7, [(0, .ref ac), (1, .int (nI p)), (2, .int (nI x)), (3, .int (nI i))], [], M1) (fun v M' => ((rcS f n E p ct (p + 8) = none) ∧ v = some (.int 1) ∧ M'.1 vd = some (ob 10 [.int ru, .int wa]) ∧ fm [vd] M M') ∨ (∃ (e9 : Nat × Nat), (rcS f n E p ct (p + 8) = some e9) ∧ v = some (.int 0) ∧ M'.1 vd = some (ob 10 [.int (nI e9.1), .int (nI e9.2)]) ∧ fm [vd] M M'))) ∧ (∀ (i x j y x9 : Nat) (M1 : mi_H), (M1.1 ac = some (ob 0 [.ref c, .ref b, .ref q, .ref vd, .int s1])) → (M1.1 b = some (ob 1 [.ref da])) → (M1.1 da = some (ar .byte n f)) → (M1.1 c = some (ob 3 [.ref b, .ref q, .int mi, .int (nI mj), .int (nI fa), .int (nI ic), .ref fr, .ref mr, .int (nI na), .int (nI pa), .int k1, .int k2, .int k3, .int k4, .int k5, .int k6, .int (nI ct)])) → (M1.1 vd = some (ob 10 [.int ru, .int wa])) → (PV g f n N E q M1) → (fm [vd] M M1) → (i < ct) → (j ≤ by2 f (x + 4)) → (s_atE f e (by2 f (x + 4) - j) y = some x9) → (s_rcE f e (ct - (i + 1)) x9 = some e) → (¬ (unqN (tX f n E (by2 f x)) = 0 ∨ fldN (tX f n E (by2 f (x + 2))) = 0)) → (rcS f n E p (ct - i) x = rcS f n E p ct (p + 8)) → (rcA f E (by2 f (x + 4) - j) y = rcA f E (by2 f (x + 4)) (x + 6)) →  pl (mT g) kf (mb_42 g).2 (85, [(0, .ref ac), (1, .int (nI p)), (2, .int (nI y)), (3, .int (nI i)), (4, .int (nI (by2 f (x + 4)))), (5, .int (nI j))], [], M1) (fun v M' => ((rcS f n E p ct (p + 8) = none) ∧ v = some (.int 1) ∧ M'.1 vd = some (ob 10 [.int ru, .int wa]) ∧ fm [vd] M M') ∨ (∃ (e9 : Nat × Nat), (rcS f n E p ct (p + 8) = some e9) ∧ v = some (.int 0) ∧ M'.1 vd = some (ob 10 [.int (nI e9.1), .int (nI e9.2)]) ∧ fm [vd] M M'))) := by
    intro kf
    induction kf with
    | zero => exact ⟨by intros; exact pl_0, by intros; exact pl_0⟩
    | succ kf ih =>
      refine ⟨?_, ?_⟩
      · skip
        intro i x M1 hl_ac hl_b hl_da hl_c hl_vd hV1 hF1 hi hf hs
        refine ps_st1 (S' := (8, [(0, .ref ac), (1, .int (nI p)), (2, .int (nI x)), (3, .int (nI i))], [.int (nI i)], M1)) rfl rfl rfl ?_
        refine ps_st (S' := (9, [(0, .ref ac), (1, .int (nI p)), (2, .int (nI x)), (3, .int (nI i))], [.ref ac, .int (nI i)], M1)) rfl rfl rfl ?_
        refine ps_get (S' := (12, [(0, .ref ac), (1, .int (nI p)), (2, .int (nI x)), (3, .int (nI i))], [.ref c, .int (nI i)], M1)) rfl hl_ac rfl rfl ?_
        refine ps_get (S' := (15, [(0, .ref ac), (1, .int (nI p)), (2, .int (nI x)), (3, .int (nI i))], [.int (nI ct), .int (nI i)], M1)) rfl hl_c rfl rfl ?_
        refine ps_if2 (S1 := (121, [(0, .ref ac), (1, .int (nI p)), (2, .int (nI x)), (3, .int (nI i))], [], M1)) (S2 := (18, [(0, .ref ac), (1, .int (nI p)), (2, .int (nI x)), (3, .int (nI i))], [], M1)) rfl rfl rfl (fun c_15 => ?_) (fun c_15 => ?_)
        · have c_15 : (nI ct) ≤ (nI i) := of_decide_eq_true c_15
          have n_15 : ct ≤ i := (le_nI (p := ct) (n := i) (by omega) (by omega)).mp c_15
          refine ps_st (S' := (122, [(0, .ref ac), (1, .int (nI p)), (2, .int (nI x)), (3, .int (nI i))], [.int 1], M1)) rfl rfl rfl ?_
          exact ps_ret rfl rfl (Or.inl ⟨by rw [← hs, show ct - i = 0 by omega]; rfl, rfl, hl_vd, hF1⟩)
        · have c_15 : ¬ ((nI ct) ≤ (nI i)) := of_decide_eq_false c_15
          have n_15 : ¬ (ct ≤ i) := fun h9 => c_15 ((le_nI (p := ct) (n := i) (by omega) (by omega)).mpr h9)
          obtain ⟨hq5, y9, hq6, hq7⟩ := s_rcE_in (i := i) (p := x) hf (by omega)
          refine ps_st (S' := (19, [(0, .ref ac), (1, .int (nI p)), (2, .int (nI x)), (3, .int (nI i))], [.ref ac], M1)) rfl rfl rfl ?_
          refine ps_get (S' := (22, [(0, .ref ac), (1, .int (nI p)), (2, .int (nI x)), (3, .int (nI i))], [.ref q], M1)) rfl hl_ac rfl rfl ?_
          refine ps_st (S' := (23, [(0, .ref ac), (1, .int (nI p)), (2, .int (nI x)), (3, .int (nI i))], [.ref ac, .ref q], M1)) rfl rfl rfl ?_
          refine ps_get (S' := (26, [(0, .ref ac), (1, .int (nI p)), (2, .int (nI x)), (3, .int (nI i))], [.ref b, .ref q], M1)) rfl hl_ac rfl rfl ?_
          refine ps_st (S' := (27, [(0, .ref ac), (1, .int (nI p)), (2, .int (nI x)), (3, .int (nI i))], [.int (nI x), .ref b, .ref q], M1)) rfl rfl rfl ?_
          refine pl_call (a := [.ref b, .int (nI x)]) (rest := [.ref q]) rfl rfl rfl (dk_u2 (f := f) (n := n) (b := b) (da := da) (p := x) hl_b hl_da (hn) (by omega)) (fun v1 M2 q3 => ?_)
          obtain ⟨rfl, rfl⟩ := q3
          show pl _ _ _ (30, [(0, .ref ac), (1, .int (nI p)), (2, .int (nI x)), (3, .int (nI i))], [.int (nI (by2 f x)), .ref q], M1) _
          have hu_27 := by2_lt f x
          refine pl_call (a := [.ref q, .int (nI (by2 f x))]) (rest := []) rfl rfl rfl (dy_isUnqualifiedName (f := f) (n := n) (N := N) (q := q) (E := E) (j := (by2 f x)) (hV1) (by2_lt _ _)) (fun v4 M5 q6 => ?_)
          obtain ⟨rfl, rfl⟩ := q6
          show pl _ _ _ (33, [(0, .ref ac), (1, .int (nI p)), (2, .int (nI x)), (3, .int (nI i))], [.int (nI (unqN (tX f n E (by2 f x))))], M1) _
          refine ps_if (S1 := (56, [(0, .ref ac), (1, .int (nI p))], [], M1)) (S2 := (36, [(0, .ref ac), (1, .int (nI p)), (2, .int (nI x)), (3, .int (nI i))], [], M1)) rfl rfl rfl (fun c_33 => ?_) (fun c_33 => ?_)
          · have c_33 : (nI (unqN (tX f n E (by2 f x)))) = 0 := of_decide_eq_true c_33
            have n_33 : unqN (tX f n E (by2 f x)) = 0 := (eq_nI (p := unqN (tX f n E (by2 f x))) (n := 0) (Nat.lt_trans (le1_unq _) (by decide)) (by decide)).mp c_33
            refine ps_st (S' := (57, [(0, .ref ac), (1, .int (nI p))], [.ref ac], M1)) rfl rfl rfl ?_
            refine ps_get (S' := (60, [(0, .ref ac), (1, .int (nI p))], [.ref vd], M1)) rfl hl_ac rfl rfl ?_
            refine ps_st (S' := (62, [(0, .ref ac), (1, .int (nI p))], [.int 37, .ref vd], M1)) rfl rfl rfl ?_
            refine ps_st (S' := (63, [(0, .ref ac), (1, .int (nI p))], [.int (nI p), .int 37, .ref vd], M1)) rfl rfl rfl ?_
            refine pl_call (a := [.ref vd, .int 37, .int (nI p)]) (rest := []) rfl rfl rfl (dk_wrong (vd := vd) (ru := ru) (wa := wa) (x1 := 37) (x2 := (nI p)) hl_vd) (fun v7 M8 q9 => ?_)
            obtain ⟨rfl, h10, f11⟩ := q9
            have h13 := (f11.1 ac (nin1 (ob_ne hl_ac hl_vd (by decide)))).trans hl_ac
            have h14 := (f11.1 b (nin1 (ob_ne hl_b hl_vd (by decide)))).trans hl_b
            have h15 := (f11.1 da (nin1 (Ne.symm (ob_ar hl_vd hl_da)))).trans hl_da
            have h16 := (f11.1 c (nin1 (ob_ne hl_c hl_vd (by decide)))).trans hl_c
            have hF17 := hF1.tr f11 (by simp)
            have hV18 := hV1.keep f11.gm (n7c hl_vd (by decide) (n7nil))
            show pl _ _ _ (66, [(0, .ref ac), (1, .int (nI p))], [.int 0], M8) _
            exact ps_ret rfl rfl (Or.inr ⟨(37, p), by
                rw [← hs, rcS_st (i := i) (by omega), if_pos (by omega)], rfl, h10, hF17⟩)
          · have c_33 : ¬ ((nI (unqN (tX f n E (by2 f x)))) = 0) := of_decide_eq_false c_33
            have n_33 : ¬ (unqN (tX f n E (by2 f x)) = 0) := fun h9 => c_33 ((eq_nI (p := unqN (tX f n E (by2 f x))) (n := 0) (Nat.lt_trans (le1_unq _) (by decide)) (by decide)).mpr h9)
            refine ps_st (S' := (37, [(0, .ref ac), (1, .int (nI p)), (2, .int (nI x)), (3, .int (nI i))], [.ref ac], M1)) rfl rfl rfl ?_
            refine ps_get (S' := (40, [(0, .ref ac), (1, .int (nI p)), (2, .int (nI x)), (3, .int (nI i))], [.ref q], M1)) rfl hl_ac rfl rfl ?_
            refine ps_st (S' := (41, [(0, .ref ac), (1, .int (nI p)), (2, .int (nI x)), (3, .int (nI i))], [.ref ac, .ref q], M1)) rfl rfl rfl ?_
            refine ps_get (S' := (44, [(0, .ref ac), (1, .int (nI p)), (2, .int (nI x)), (3, .int (nI i))], [.ref b, .ref q], M1)) rfl hl_ac rfl rfl ?_
            refine ps_st (S' := (45, [(0, .ref ac), (1, .int (nI p)), (2, .int (nI x)), (3, .int (nI i))], [.int (nI x), .ref b, .ref q], M1)) rfl rfl rfl ?_
            refine ps_st (S' := (46, [(0, .ref ac), (1, .int (nI p)), (2, .int (nI x)), (3, .int (nI i))], [.int 2, .int (nI x), .ref b, .ref q], M1)) rfl rfl rfl ?_
            refine ps_st (S' := (47, [(0, .ref ac), (1, .int (nI p)), (2, .int (nI x)), (3, .int (nI i))], [.int ((nI x) + 2), .ref b, .ref q], M1)) rfl rfl rfl ?_
            rw [nI_add1 (p := x) (k := 2) (x := 2) rfl (by omega)]
            show pl _ _ _ (_, [(0, .ref ac), (1, .int (nI p)), (2, .int (nI x)), (3, .int (nI i))], [.int (nI (x + 2)), .ref b, .ref q], M1) _
            refine pl_call (a := [.ref b, .int (nI (x + 2))]) (rest := [.ref q]) rfl rfl rfl (dk_u2 (f := f) (n := n) (b := b) (da := da) (p := (x + 2)) hl_b hl_da (hn) (by omega)) (fun v19 M20 q21 => ?_)
            obtain ⟨rfl, rfl⟩ := q21
            show pl _ _ _ (50, [(0, .ref ac), (1, .int (nI p)), (2, .int (nI x)), (3, .int (nI i))], [.int (nI (by2 f (x + 2))), .ref q], M1) _
            have hu_47 := by2_lt f (x + 2)
            refine pl_call (a := [.ref q, .int (nI (by2 f (x + 2)))]) (rest := []) rfl rfl rfl (dy_isFieldDescriptor (f := f) (n := n) (N := N) (q := q) (E := E) (j := (by2 f (x + 2))) (hV1) (by2_lt _ _)) (fun v22 M23 q24 => ?_)
            obtain ⟨rfl, rfl⟩ := q24
            show pl _ _ _ (53, [(0, .ref ac), (1, .int (nI p)), (2, .int (nI x)), (3, .int (nI i))], [.int (nI (fldN (tX f n E (by2 f (x + 2)))))], M1) _
            refine ps_if (S1 := (67, [(0, .ref ac), (1, .int (nI p)), (2, .int (nI x)), (3, .int (nI i))], [], M1)) (S2 := (56, [(0, .ref ac), (1, .int (nI p))], [], M1)) rfl rfl rfl (fun c_53 => ?_) (fun c_53 => ?_)
            · have c_53 : ¬ (nI (fldN (tX f n E (by2 f (x + 2))))) = 0 := of_decide_eq_true c_53
              have n_53 : ¬ (fldN (tX f n E (by2 f (x + 2))) = 0) := fun h9 => c_53 ((eq_nI (p := fldN (tX f n E (by2 f (x + 2)))) (n := 0) (Nat.lt_trans (le1_fld _) (by decide)) (by decide)).mpr h9)
              refine ps_st (S' := (68, [(0, .ref ac), (1, .int (nI p)), (2, .int (nI x)), (3, .int (nI i))], [.ref ac], M1)) rfl rfl rfl ?_
              refine ps_get (S' := (71, [(0, .ref ac), (1, .int (nI p)), (2, .int (nI x)), (3, .int (nI i))], [.ref b], M1)) rfl hl_ac rfl rfl ?_
              refine ps_st (S' := (72, [(0, .ref ac), (1, .int (nI p)), (2, .int (nI x)), (3, .int (nI i))], [.int (nI x), .ref b], M1)) rfl rfl rfl ?_
              refine ps_st (S' := (73, [(0, .ref ac), (1, .int (nI p)), (2, .int (nI x)), (3, .int (nI i))], [.int 4, .int (nI x), .ref b], M1)) rfl rfl rfl ?_
              refine ps_st (S' := (74, [(0, .ref ac), (1, .int (nI p)), (2, .int (nI x)), (3, .int (nI i))], [.int ((nI x) + 4), .ref b], M1)) rfl rfl rfl ?_
              rw [nI_add1 (p := x) (k := 4) (x := 4) rfl (by omega)]
              show pl _ _ _ (_, [(0, .ref ac), (1, .int (nI p)), (2, .int (nI x)), (3, .int (nI i))], [.int (nI (x + 4)), .ref b], M1) _
              refine pl_call (a := [.ref b, .int (nI (x + 4))]) (rest := []) rfl rfl rfl (dk_u2 (f := f) (n := n) (b := b) (da := da) (p := (x + 4)) hl_b hl_da (hn) (by omega)) (fun v25 M26 q27 => ?_)
              obtain ⟨rfl, rfl⟩ := q27
              show pl _ _ _ (77, [(0, .ref ac), (1, .int (nI p)), (2, .int (nI x)), (3, .int (nI i))], [.int (nI (by2 f (x + 4)))], M1) _
              have hu_74 := by2_lt f (x + 4)
              refine ps_st (S' := (79, [(4, .int (nI (by2 f (x + 4)))), (0, .ref ac), (1, .int (nI p)), (2, .int (nI x)), (3, .int (nI i))], [], M1)) rfl rfl rfl ?_
              refine ps_st (S' := (82, [(2, .int ((nI x) + 6)), (4, .int (nI (by2 f (x + 4)))), (0, .ref ac), (1, .int (nI p)), (3, .int (nI i))], [], M1)) rfl rfl rfl ?_
              rw [nI_add1 (p := x) (k := 6) (x := 6) rfl (by omega)]
              show pl _ _ _ (_, [(2, .int (nI (x + 6))), (4, .int (nI (by2 f (x + 4)))), (0, .ref ac), (1, .int (nI p)), (3, .int (nI i))], [], M1) _
              refine ps_st (S' := (83, [(2, .int (nI (x + 6))), (4, .int (nI (by2 f (x + 4)))), (0, .ref ac), (1, .int (nI p)), (3, .int (nI i))], [.int 0], M1)) rfl rfl rfl ?_
              refine ps_st (S' := (85, [(0, .ref ac), (1, .int (nI p)), (2, .int (nI (x + 6))), (3, .int (nI i)), (4, .int (nI (by2 f (x + 4)))), (5, .int 0)], [], M1)) rfl rfl rfl ?_
              exact ih.2 (i) (x) (0) (x + 6) (y9) M1 hl_ac hl_b hl_da hl_c hl_vd hV1 hF1 (by omega) (by omega) (hq6) (hq7) (by omega) (hs) (rfl)
            · have c_53 : ¬ (¬ (nI (fldN (tX f n E (by2 f (x + 2))))) = 0) := of_decide_eq_false c_53
              have n_53 : fldN (tX f n E (by2 f (x + 2))) = 0 := (eq_nI (p := fldN (tX f n E (by2 f (x + 2)))) (n := 0) (Nat.lt_trans (le1_fld _) (by decide)) (by decide)).mp (Decidable.not_not.mp c_53)
              refine ps_st (S' := (57, [(0, .ref ac), (1, .int (nI p))], [.ref ac], M1)) rfl rfl rfl ?_
              refine ps_get (S' := (60, [(0, .ref ac), (1, .int (nI p))], [.ref vd], M1)) rfl hl_ac rfl rfl ?_
              refine ps_st (S' := (62, [(0, .ref ac), (1, .int (nI p))], [.int 37, .ref vd], M1)) rfl rfl rfl ?_
              refine ps_st (S' := (63, [(0, .ref ac), (1, .int (nI p))], [.int (nI p), .int 37, .ref vd], M1)) rfl rfl rfl ?_
              refine pl_call (a := [.ref vd, .int 37, .int (nI p)]) (rest := []) rfl rfl rfl (dk_wrong (vd := vd) (ru := ru) (wa := wa) (x1 := 37) (x2 := (nI p)) hl_vd) (fun v28 M29 q30 => ?_)
              obtain ⟨rfl, h31, f32⟩ := q30
              have h34 := (f32.1 ac (nin1 (ob_ne hl_ac hl_vd (by decide)))).trans hl_ac
              have h35 := (f32.1 b (nin1 (ob_ne hl_b hl_vd (by decide)))).trans hl_b
              have h36 := (f32.1 da (nin1 (Ne.symm (ob_ar hl_vd hl_da)))).trans hl_da
              have h37 := (f32.1 c (nin1 (ob_ne hl_c hl_vd (by decide)))).trans hl_c
              have hF38 := hF1.tr f32 (by simp)
              have hV39 := hV1.keep f32.gm (n7c hl_vd (by decide) (n7nil))
              show pl _ _ _ (66, [(0, .ref ac), (1, .int (nI p))], [.int 0], M29) _
              exact ps_ret rfl rfl (Or.inr ⟨(37, p), by
                  rw [← hs, rcS_st (i := i) (by omega), if_pos (by omega)], rfl, h31, hF38⟩)
      · skip
        intro i x j y x9 M1 hl_ac hl_b hl_da hl_c hl_vd hV1 hF1 hi hj hg hf2 h37 hs hd
        have hu9 := by2_lt f (x + 4)
        refine ps_st1 (S' := (87, [(0, .ref ac), (1, .int (nI p)), (2, .int (nI y)), (3, .int (nI i)), (4, .int (nI (by2 f (x + 4)))), (5, .int (nI j))], [.int (nI j)], M1)) rfl rfl rfl ?_
        refine ps_st (S' := (89, [(0, .ref ac), (1, .int (nI p)), (2, .int (nI y)), (3, .int (nI i)), (4, .int (nI (by2 f (x + 4)))), (5, .int (nI j))], [.int (nI (by2 f (x + 4))), .int (nI j)], M1)) rfl rfl rfl ?_
        refine ps_if2 (S1 := (115, [(0, .ref ac), (1, .int (nI p)), (2, .int (nI y)), (3, .int (nI i)), (4, .int (nI (by2 f (x + 4)))), (5, .int (nI j))], [], M1)) (S2 := (92, [(0, .ref ac), (1, .int (nI p)), (2, .int (nI y)), (3, .int (nI i)), (4, .int (nI (by2 f (x + 4)))), (5, .int (nI j))], [], M1)) rfl rfl rfl (fun c_89 => ?_) (fun c_89 => ?_)
        · have c_89 : (nI (by2 f (x + 4))) ≤ (nI j) := of_decide_eq_true c_89
          have n_89 : by2 f (x + 4) ≤ j := (le_nI (p := by2 f (x + 4)) (n := j) (Nat.lt_trans (by2_lt _ _) (by decide)) (by omega)).mp c_89
          refine ps_st (S' := (118, [(3, .int ((nI i) + 1)), (0, .ref ac), (1, .int (nI p)), (2, .int (nI y)), (4, .int (nI (by2 f (x + 4)))), (5, .int (nI j))], [], M1)) rfl rfl rfl ?_
          rw [nI_add1 (p := i) (k := 1) (x := 1) rfl (by omega)]
          show pl _ _ _ (_, [(3, .int (nI (i + 1))), (0, .ref ac), (1, .int (nI p)), (2, .int (nI y)), (4, .int (nI (by2 f (x + 4)))), (5, .int (nI j))], [], M1) _
          refine ps_st (S' := (7, [(0, .ref ac), (1, .int (nI p)), (2, .int (nI y)), (3, .int (nI (i + 1)))], [], M1)) rfl rfl rfl ?_
          exact ih.1 (i + 1) (y) M1 hl_ac hl_b hl_da hl_c hl_vd hV1 hF1 (by omega) (by
              rw [show by2 f (x + 4) - j = 0 by omega] at hg
              have e9 : y = x9 := Option.some.inj (show some y = some x9 from hg)
              rw [e9]
              exact hf2) (by
              rw [← hs, rcS_st (i := i) (by omega), if_neg h37, ← hd, show by2 f (x + 4) - j = 0 by omega]
              rfl)
        · have c_89 : ¬ ((nI (by2 f (x + 4))) ≤ (nI j)) := of_decide_eq_false c_89
          have n_89 : ¬ (by2 f (x + 4) ≤ j) := fun h9 => c_89 ((le_nI (p := by2 f (x + 4)) (n := j) (Nat.lt_trans (by2_lt _ _) (by decide)) (by omega)).mpr h9)
          obtain ⟨hw5, hw6, hw7⟩ := s_atE_in (i := j) (p := y) hg (by omega)
          refine ps_st (S' := (93, [(0, .ref ac), (1, .int (nI p)), (2, .int (nI y)), (3, .int (nI i)), (4, .int (nI (by2 f (x + 4)))), (5, .int (nI j))], [.ref ac], M1)) rfl rfl rfl ?_
          refine ps_st (S' := (94, [(0, .ref ac), (1, .int (nI p)), (2, .int (nI y)), (3, .int (nI i)), (4, .int (nI (by2 f (x + 4)))), (5, .int (nI j))], [.int (nI y), .ref ac], M1)) rfl rfl rfl ?_
          refine ps_st (S' := (95, [(0, .ref ac), (1, .int (nI p)), (2, .int (nI y)), (3, .int (nI i)), (4, .int (nI (by2 f (x + 4)))), (5, .int (nI j))], [.int 0, .int (nI y), .ref ac], M1)) rfl rfl rfl ?_
          refine pl_call (a := [.ref ac, .int (nI y), .int 0]) (rest := []) rfl rfl rfl (dk_isNew0 (f := f) (n := n) (N := N) (q := q) (E := E) (ac := ac) (c := c) (b := b) (da := da) (vd := vd) (fr := fr) (mr := mr) (fa := fa) (ic := ic) (mj := mj) (na := na) (pa := pa) (mi := mi) (ru := ru) (wa := wa) (s1 := s1) (k1 := k1) (k2 := k2) (k3 := k3) (k4 := k4) (k5 := k5) (k6 := k6) (k7 := (nI ct)) (p := y) hl_ac hl_b hl_da hl_vd (hn) (by omega) (hV1)) (fun v40 M41 q42 => ?_)
          rcases q42 with q42 | q42
          · skip
            obtain ⟨q95_s, rfl, h43, f44⟩ := q42
            have h46 := (f44.1 ac (nin1 (ob_ne hl_ac hl_vd (by decide)))).trans hl_ac
            have h47 := (f44.1 b (nin1 (ob_ne hl_b hl_vd (by decide)))).trans hl_b
            have h48 := (f44.1 da (nin1 (Ne.symm (ob_ar hl_vd hl_da)))).trans hl_da
            have h49 := (f44.1 c (nin1 (ob_ne hl_c hl_vd (by decide)))).trans hl_c
            have hF50 := hF1.tr f44 (by simp)
            have hV51 := hV1.keep f44.gm (n7c hl_vd (by decide) (n7nil))
            show pl _ _ _ (98, [(0, .ref ac), (1, .int (nI p)), (2, .int (nI y)), (3, .int (nI i)), (4, .int (nI (by2 f (x + 4)))), (5, .int (nI j))], [.int 0], M41) _
            refine ps_if (S1 := (103, [(0, .ref ac), (1, .int (nI p)), (2, .int (nI y)), (3, .int (nI i)), (4, .int (nI (by2 f (x + 4)))), (5, .int (nI j))], [], M41)) (S2 := (101, [(0, .ref ac), (1, .int (nI p)), (2, .int (nI y)), (3, .int (nI i)), (4, .int (nI (by2 f (x + 4)))), (5, .int (nI j))], [], M41)) rfl rfl rfl (fun c_98 => ?_) (fun c_98 => ?_)
            · exact absurd (of_decide_eq_true c_98) (by decide)
            refine ps_st (S' := (102, [(0, .ref ac), (1, .int (nI p)), (2, .int (nI y)), (3, .int (nI i)), (4, .int (nI (by2 f (x + 4)))), (5, .int (nI j))], [.int 0], M41)) rfl rfl rfl ?_
            exact ps_ret rfl rfl (Or.inr ⟨(28, y), by
                rw [← hs, rcS_st (i := i) (by omega), if_neg h37, ← hd, rcA_st (i := j) (by omega), if_pos (by omega)], rfl, h43, hF50⟩)
          · skip
            obtain ⟨q95_s, rfl, h52, f53⟩ := q42
            have h55 := (f53.1 ac (nin1 (ob_ne hl_ac hl_vd (by decide)))).trans hl_ac
            have h56 := (f53.1 b (nin1 (ob_ne hl_b hl_vd (by decide)))).trans hl_b
            have h57 := (f53.1 da (nin1 (Ne.symm (ob_ar hl_vd hl_da)))).trans hl_da
            have h58 := (f53.1 c (nin1 (ob_ne hl_c hl_vd (by decide)))).trans hl_c
            have hF59 := hF1.tr f53 (by simp)
            have hV60 := hV1.keep f53.gm (n7c hl_vd (by decide) (n7nil))
            show pl _ _ _ (98, [(0, .ref ac), (1, .int (nI p)), (2, .int (nI y)), (3, .int (nI i)), (4, .int (nI (by2 f (x + 4)))), (5, .int (nI j))], [.int 1], M41) _
            refine ps_if (S1 := (103, [(0, .ref ac), (1, .int (nI p)), (2, .int (nI y)), (3, .int (nI i)), (4, .int (nI (by2 f (x + 4)))), (5, .int (nI j))], [], M41)) (S2 := (101, [(0, .ref ac), (1, .int (nI p)), (2, .int (nI y)), (3, .int (nI i)), (4, .int (nI (by2 f (x + 4)))), (5, .int (nI j))], [], M41)) rfl rfl rfl (fun c_98 => ?_) (fun c_98 => ?_)
            rotate_left
            · exact absurd (by decide) (of_decide_eq_false c_98)
            refine ps_st (S' := (104, [(0, .ref ac), (1, .int (nI p)), (2, .int (nI y)), (3, .int (nI i)), (4, .int (nI (by2 f (x + 4)))), (5, .int (nI j))], [.ref ac], M41)) rfl rfl rfl ?_
            refine ps_st (S' := (105, [(0, .ref ac), (1, .int (nI p)), (2, .int (nI y)), (3, .int (nI i)), (4, .int (nI (by2 f (x + 4)))), (5, .int (nI j))], [.int (nI y), .ref ac], M41)) rfl rfl rfl ?_
            refine pl_call (a := [.ref ac, .int (nI y)]) (rest := []) rfl rfl rfl (dk_behind (f := f) (n := n) (q := q) (ac := ac) (c := c) (b := b) (da := da) (vd := vd) (s1 := s1) (p := y) h55 h56 h57 (hn) (by omega)) (fun v61 M62 q63 => ?_)
            obtain ⟨rfl, rfl⟩ := q63
            show pl _ _ _ (108, [(0, .ref ac), (1, .int (nI p)), (2, .int (nI y)), (3, .int (nI i)), (4, .int (nI (by2 f (x + 4)))), (5, .int (nI j))], [.int (nI (y + 6 + by4 f (y + 2)))], M41) _
            refine ps_st (S' := (109, [(2, .int (nI (y + 6 + by4 f (y + 2)))), (0, .ref ac), (1, .int (nI p)), (3, .int (nI i)), (4, .int (nI (by2 f (x + 4)))), (5, .int (nI j))], [], M41)) rfl rfl rfl ?_
            refine ps_st (S' := (112, [(5, .int ((nI j) + 1)), (2, .int (nI (y + 6 + by4 f (y + 2)))), (0, .ref ac), (1, .int (nI p)), (3, .int (nI i)), (4, .int (nI (by2 f (x + 4))))], [], M41)) rfl rfl rfl ?_
            rw [nI_add1 (p := j) (k := 1) (x := 1) rfl (by omega)]
            show pl _ _ _ (_, [(5, .int (nI (j + 1))), (2, .int (nI (y + 6 + by4 f (y + 2)))), (0, .ref ac), (1, .int (nI p)), (3, .int (nI i)), (4, .int (nI (by2 f (x + 4))))], [], M41) _
            refine ps_st (S' := (85, [(0, .ref ac), (1, .int (nI p)), (2, .int (nI (y + 6 + by4 f (y + 2)))), (3, .int (nI i)), (4, .int (nI (by2 f (x + 4)))), (5, .int (nI (j + 1)))], [], M41)) rfl rfl rfl ?_
            exact ih.2 (i) (x) (j + 1) (y + 6 + by4 f (y + 2)) (x9) M41 h55 h56 h57 h58 h52 hV60 hF59 (hi) (by omega) (hw7) (hf2) (h37) (hs) (by
                rw [← hd, rcA_st (i := j) (by omega), if_neg (by omega)])
  refine ps_st (S' := (1, [(0, .ref ac), (1, .int (nI p))], [.int (nI p)], M)) rfl rfl rfl ?_
  refine ps_st (S' := (3, [(0, .ref ac), (1, .int (nI p))], [.int 8, .int (nI p)], M)) rfl rfl rfl ?_
  refine ps_st (S' := (4, [(0, .ref ac), (1, .int (nI p))], [.int ((nI p) + 8)], M)) rfl rfl rfl ?_
  rw [nI_add1 (p := p) (k := 8) (x := 8) rfl (by omega)]
  show pl _ _ _ (_, [(0, .ref ac), (1, .int (nI p))], [.int (nI (p + 8))], M) _
  refine ps_st (S' := (5, [(2, .int (nI (p + 8))), (0, .ref ac), (1, .int (nI p))], [], M)) rfl rfl rfl ?_
  refine ps_st (S' := (6, [(2, .int (nI (p + 8))), (0, .ref ac), (1, .int (nI p))], [.int 0], M)) rfl rfl rfl ?_
  refine ps_st (S' := (7, [(0, .ref ac), (1, .int (nI p)), (2, .int (nI (p + 8))), (3, .int 0)], [], M)) rfl rfl rfl ?_
  exact (LL kf).1 (0) (p + 8) M h_ac h_b h_da h_c h_vd hV hF (by omega) (hf0) (rfl)
set_option maxHeartbeats 1000000 in
theorem dk_brokenRule2 {g : xe_G} {M : mi_H} {f : Nat → Int32} {n N q : Nat} {E : List (Nat × Nat)} {ac c b da vd fr mr fa ic mj na pa : Nat} {mi ru wa k1 k7 : Int32} {k p e s bc bp i4 i5 i6 : Nat} (h_ac : M.1 ac = some (ob 0 [.ref c, .ref b, .ref q, .ref vd, .int (nI s)])) (h_b : M.1 b = some (ob 1 [.ref da])) (h_da : M.1 da = some (ar .byte n f)) (h_c : M.1 c = some (ob 3 [.ref b, .ref q, .int mi, .int (nI mj), .int (nI fa), .int (nI ic), .ref fr, .ref mr, .int (nI na), .int (nI pa), .int k1, .int (nI bc), .int (nI bp), .int (nI i4), .int (nI i5), .int (nI i6), .int k7])) (h_vd : M.1 vd = some (ob 10 [.int ru, .int wa])) (hn : n ≤ 65540) (hmj : mj < 65536) (hfa : fa + 8 ≤ n) (hs : s < 2048) (hk : k < 11) (he : e ≤ n) (hp : p < 70000) (hfe : ¬ k = 0 → s_fe f k (p + 6) e = some e) (hV : PV g f n N E q M) : pt (mT g) 26 [.ref ac, .int (nI k), .int (nI p)] M (fun v M' => ((brS f n E (by2 f fa) k p s = none) ∧ v = some (.int 0) ∧ M'.1 vd = some (ob 10 [.int ru, .int wa]) ∧ M'.1 c = some (ob 3 [.ref b, .ref q, .int mi, .int (nI mj), .int (nI fa), .int (nI ic), .ref fr, .ref mr, .int (nI na), .int (nI pa), .int k1, .int (nI (if k = 6 then by2 f (p + 6) else bc)), .int (nI (if k = 6 then p + 8 else bp)), .int (nI (if k = 5 then by2 f (p + 6) else i4)), .int (nI (if k = 8 then by2 f (p + 6) else i5)), .int (nI (if k = 10 then by2 f (p + 6) else i6)), .int (if k = 9 then (nI (by2 f (p + 6))) else k7)]) ∧ fm [c, vd] M M') ∨ (∃ (r9 : Nat), (brS f n E (by2 f fa) k p s = some (.inl r9)) ∧ (0 < r9 ∧ r9 < 100) ∧ v = some (.int (nI r9)) ∧ M'.1 vd = some (ob 10 [.int ru, .int wa]) ∧ fm [c, vd] M M') ∨ (∃ (e9 : Nat × Nat), (brS f n E (by2 f fa) k p s = some (.inr e9)) ∧ v = some (.int (-1)) ∧ M'.1 vd = some (ob 10 [.int (nI e9.1), .int (nI e9.2)]) ∧ fm [c, vd] M M')) := by
  refine pt_in (b := mb_26 g) rfl (fun kf => ?_)
  show pl (mT g) kf (mb_26 g).2 (0, [(0, .ref ac), (1, .int (nI k)), (2, .int (nI p))], [], M) _
  have hF : fm [c, vd] M M := fm.rf
  refine ps_st (S' := (1, [(0, .ref ac), (1, .int (nI k)), (2, .int (nI p))], [.int (nI k)], M)) rfl rfl rfl ?_
  refine pl_sw rfl (fun t_1 et_1 => ?_)
  have ht_1 : t_1 ∈ [40, 73, 112, 154, 199, 231, 274] := mi_sw_sub et_1 (by decide)
  simp only [List.mem_cons, List.not_mem_nil, or_false] at ht_1
  rcases ht_1 with rfl | rfl | rfl | rfl | rfl | rfl | rfl
  · show pl _ _ _ (40, [(0, .ref ac), (1, .int (nI k)), (2, .int (nI p))], [], M) _
    have m_1 := sw_nat (t := k) (by omega) et_1
    simp at m_1
    have hb8 := s_fe_in (hfe (by omega))
    have hb7 := hb8.1
    have hb9 := hb8.2.2.2.1 (by omega)
    refine ps_st (S' := (41, [(0, .ref ac), (1, .int (nI k)), (2, .int (nI p))], [.ref ac], M)) rfl rfl rfl ?_
    refine ps_get (S' := (44, [(0, .ref ac), (1, .int (nI k)), (2, .int (nI p))], [.ref c], M)) rfl h_ac rfl rfl ?_
    refine ps_st (S' := (45, [(0, .ref ac), (1, .int (nI k)), (2, .int (nI p))], [.ref ac, .ref c], M)) rfl rfl rfl ?_
    refine ps_get (S' := (48, [(0, .ref ac), (1, .int (nI k)), (2, .int (nI p))], [.ref b, .ref c], M)) rfl h_ac rfl rfl ?_
    refine ps_st (S' := (49, [(0, .ref ac), (1, .int (nI k)), (2, .int (nI p))], [.int (nI p), .ref b, .ref c], M)) rfl rfl rfl ?_
    refine ps_st (S' := (51, [(0, .ref ac), (1, .int (nI k)), (2, .int (nI p))], [.int 6, .int (nI p), .ref b, .ref c], M)) rfl rfl rfl ?_
    refine ps_st (S' := (52, [(0, .ref ac), (1, .int (nI k)), (2, .int (nI p))], [.int ((nI p) + 6), .ref b, .ref c], M)) rfl rfl rfl ?_
    rw [nI_add1 (p := p) (k := 6) (x := 6) rfl (by omega)]
    show pl _ _ _ (_, [(0, .ref ac), (1, .int (nI k)), (2, .int (nI p))], [.int (nI (p + 6)), .ref b, .ref c], M) _
    refine pl_call (a := [.ref b, .int (nI (p + 6))]) (rest := [.ref c]) rfl rfl rfl (dk_u2 (f := f) (n := n) (b := b) (da := da) (p := (p + 6)) h_b h_da (hn) (by omega)) (fun v1 M2 q3 => ?_)
    obtain ⟨rfl, rfl⟩ := q3
    show pl _ _ _ (55, [(0, .ref ac), (1, .int (nI k)), (2, .int (nI p))], [.int (nI (by2 f (p + 6))), .ref c], M) _
    have hu_52 := by2_lt f (p + 6)
    refine ps_put (l' := [.ref b, .ref q, .int mi, .int (nI mj), .int (nI fa), .int (nI ic), .ref fr, .ref mr, .int (nI na), .int (nI pa), .int k1, .int (nI bc), .int (nI bp), .int (nI (by2 f (p + 6))), .int (nI i5), .int (nI i6), .int k7]) rfl h_c rfl rfl (fun M4 h5 f6 z7 => ?_)
    have h8 := (f6 ac (ob_ne h_ac h_c (by decide))).trans h_ac
    have h9 := (f6 b (ob_ne h_b h_c (by decide))).trans h_b
    have h10 := (f6 da (Ne.symm (ob_ar h_c h_da))).trans h_da
    have h11 := (f6 vd (ob_ne h_vd h_c (by decide))).trans h_vd
    have hV12 := hV.put h_c (by decide) f6 z7
    have hF13 := hF.up (by simp) f6 z7
    show pl _ _ _ (58, [(0, .ref ac), (1, .int (nI k)), (2, .int (nI p))], [], M4) _
    refine ps_st (S' := (59, [(0, .ref ac), (1, .int (nI k)), (2, .int (nI p))], [.ref ac], M4)) rfl rfl rfl ?_
    refine ps_st (S' := (60, [(0, .ref ac), (1, .int (nI k)), (2, .int (nI p))], [.int (nI p), .ref ac], M4)) rfl rfl rfl ?_
    refine pl_call (a := [.ref ac, .int (nI p)]) (rest := []) rfl rfl rfl (dk_innerClassesHold (f := f) (n := n) (N := N) (q := q) (E := E) (ac := ac) (c := c) (b := b) (da := da) (vd := vd) (fr := fr) (mr := mr) (fa := fa) (ic := ic) (mj := mj) (na := na) (pa := pa) (mi := mi) (ru := ru) (wa := wa) (s1 := (nI s)) (k1 := k1) (k2 := (nI bc)) (k3 := (nI bp)) (k4 := 0) (k5 := (nI i5)) (k6 := (nI i6)) (k7 := k7) (p := p) (ct := (by2 f (p + 6))) h8 h9 h10 h5 (hn) (by2_lt _ _) (by omega) (hV12)) (fun v14 M15 q16 => ?_)
    obtain ⟨rfl, rfl⟩ := q16
    show pl _ _ _ (63, [(0, .ref ac), (1, .int (nI k)), (2, .int (nI p))], [.int (nI (inA f E (p + 8) (by2 f (p + 6)) 0))], M4) _
    refine ps_if (S1 := (70, [(0, .ref ac), (1, .int (nI k)), (2, .int (nI p))], [], M4)) (S2 := (66, [(0, .ref ac), (1, .int (nI k)), (2, .int (nI p))], [], M4)) rfl rfl rfl (fun c_63 => ?_) (fun c_63 => ?_)
    · have c_63 : (nI (inA f E (p + 8) (by2 f (p + 6)) 0)) = 0 := of_decide_eq_true c_63
      have n_63 : inA f E (p + 8) (by2 f (p + 6)) 0 = 0 := (eq_nI (p := inA f E (p + 8) (by2 f (p + 6)) 0) (n := 0) (Nat.lt_trans (le1_in _ _ _ _ _) (by decide)) (by decide)).mp c_63
      refine ps_st (S' := (72, [], [.int 33], M4)) rfl rfl rfl ?_
      exact ps_ret rfl rfl (Or.inr (Or.inl ⟨33, by
          unfold brS
          first | ((repeat first | rw [if_pos (by omega)] | rw [if_neg (by omega)]) <;> first | rfl | omega) | ((repeat' split) <;> first | rfl | (exfalso; omega) | omega), by decide, rfl, h11, hF13⟩))
    · have c_63 : ¬ ((nI (inA f E (p + 8) (by2 f (p + 6)) 0)) = 0) := of_decide_eq_false c_63
      have n_63 : ¬ (inA f E (p + 8) (by2 f (p + 6)) 0 = 0) := fun h9 => c_63 ((eq_nI (p := inA f E (p + 8) (by2 f (p + 6)) 0) (n := 0) (Nat.lt_trans (le1_in _ _ _ _ _) (by decide)) (by decide)).mpr h9)
      refine ps_st (S' := (67, [(0, .ref ac), (1, .int (nI k)), (2, .int (nI p))], [.int 0], M4)) rfl rfl rfl ?_
      refine ps_st (S' := (72, [], [.int 0], M4)) rfl rfl rfl ?_
      exact ps_ret rfl rfl (Or.inl ⟨by
          unfold brS
          first | ((repeat first | rw [if_pos (by omega)] | rw [if_neg (by omega)]) <;> first | rfl | omega) | ((repeat' split) <;> first | rfl | (exfalso; omega) | omega), rfl, h11, by rw [if_neg (show ¬ k = 6 by omega), if_neg (show ¬ k = 6 by omega), if_pos (show k = 5 by omega), if_neg (show ¬ k = 8 by omega), if_neg (show ¬ k = 10 by omega), if_neg (show ¬ k = 9 by omega)]; exact h5, hF13⟩)
  · show pl _ _ _ (73, [(0, .ref ac), (1, .int (nI k)), (2, .int (nI p))], [], M) _
    have m_1 := sw_nat (t := k) (by omega) et_1
    simp at m_1
    have hb8 := s_fe_in (hfe (by omega))
    have hb7 := hb8.1
    have hb9 := hb8.2.1 (by omega)
    refine ps_st (S' := (74, [(0, .ref ac), (1, .int (nI k)), (2, .int (nI p))], [.ref ac], M)) rfl rfl rfl ?_
    refine ps_get (S' := (77, [(0, .ref ac), (1, .int (nI k)), (2, .int (nI p))], [.ref q], M)) rfl h_ac rfl rfl ?_
    refine ps_st (S' := (78, [(0, .ref ac), (1, .int (nI k)), (2, .int (nI p))], [.ref ac, .ref q], M)) rfl rfl rfl ?_
    refine ps_get (S' := (81, [(0, .ref ac), (1, .int (nI k)), (2, .int (nI p))], [.ref b, .ref q], M)) rfl h_ac rfl rfl ?_
    refine ps_st (S' := (82, [(0, .ref ac), (1, .int (nI k)), (2, .int (nI p))], [.int (nI p), .ref b, .ref q], M)) rfl rfl rfl ?_
    refine ps_st (S' := (84, [(0, .ref ac), (1, .int (nI k)), (2, .int (nI p))], [.int 6, .int (nI p), .ref b, .ref q], M)) rfl rfl rfl ?_
    refine ps_st (S' := (85, [(0, .ref ac), (1, .int (nI k)), (2, .int (nI p))], [.int ((nI p) + 6), .ref b, .ref q], M)) rfl rfl rfl ?_
    rw [nI_add1 (p := p) (k := 6) (x := 6) rfl (by omega)]
    show pl _ _ _ (_, [(0, .ref ac), (1, .int (nI k)), (2, .int (nI p))], [.int (nI (p + 6)), .ref b, .ref q], M) _
    refine pl_call (a := [.ref b, .int (nI (p + 6))]) (rest := [.ref q]) rfl rfl rfl (dk_u2 (f := f) (n := n) (b := b) (da := da) (p := (p + 6)) h_b h_da (hn) (by omega)) (fun v17 M18 q19 => ?_)
    obtain ⟨rfl, rfl⟩ := q19
    show pl _ _ _ (88, [(0, .ref ac), (1, .int (nI k)), (2, .int (nI p))], [.int (nI (by2 f (p + 6))), .ref q], M) _
    have hu_85 := by2_lt f (p + 6)
    refine pl_call (a := [.ref q, .int (nI (by2 f (p + 6)))]) (rest := []) rfl rfl rfl (dy_tagOf (f := f) (n := n) (N := N) (q := q) (E := E) (j := (by2 f (p + 6))) (hV) (by2_lt _ _)) (fun v20 M21 q22 => ?_)
    obtain ⟨rfl, rfl⟩ := q22
    show pl _ _ _ (91, [(0, .ref ac), (1, .int (nI k)), (2, .int (nI p))], [.int (nI (tg f E (by2 f (p + 6))))], M) _
    refine ps_st (S' := (93, [(0, .ref ac), (1, .int (nI k)), (2, .int (nI p))], [.int 7, .int (nI (tg f E (by2 f (p + 6))))], M)) rfl rfl rfl ?_
    refine ps_if2 (S1 := (109, [], [], M)) (S2 := (96, [(0, .ref ac), (1, .int (nI k)), (2, .int (nI p))], [], M)) rfl rfl rfl (fun c_93 => ?_) (fun c_93 => ?_)
    · have c_93 : ¬ (nI (tg f E (by2 f (p + 6)))) = 7 := of_decide_eq_true c_93
      have n_93 : ¬ (tg f E (by2 f (p + 6)) = 7) := fun h9 => c_93 ((eq_nI (p := tg f E (by2 f (p + 6))) (n := 7) (Nat.lt_trans (tg_lt _ _ _) (by decide)) (by decide)).mpr h9)
      refine ps_st (S' := (111, [], [.int 34], M)) rfl rfl rfl ?_
      exact ps_ret rfl rfl (Or.inr (Or.inl ⟨34, by
          unfold brS
          first | ((repeat first | rw [if_pos (by omega)] | rw [if_neg (by omega)]) <;> first | rfl | omega) | ((repeat' split) <;> first | rfl | (exfalso; omega) | omega), by decide, rfl, h_vd, hF⟩))
    · have c_93 : ¬ (¬ (nI (tg f E (by2 f (p + 6)))) = 7) := of_decide_eq_false c_93
      have n_93 : tg f E (by2 f (p + 6)) = 7 := (eq_nI (p := tg f E (by2 f (p + 6))) (n := 7) (Nat.lt_trans (tg_lt _ _ _) (by decide)) (by decide)).mp (Decidable.not_not.mp c_93)
      refine ps_st (S' := (97, [(0, .ref ac), (1, .int (nI k)), (2, .int (nI p))], [.ref ac], M)) rfl rfl rfl ?_
      refine ps_st (S' := (99, [(0, .ref ac), (1, .int (nI k)), (2, .int (nI p))], [.int 8, .ref ac], M)) rfl rfl rfl ?_
      refine pl_call (a := [.ref ac, .int 8]) (rest := []) rfl rfl rfl (dk_hasSeen (q := q) (ac := ac) (c := c) (b := b) (vd := vd) (s := s) (k := 8) h_ac (by omega) (by omega)) (fun v23 M24 q25 => ?_)
      obtain ⟨rfl, rfl⟩ := q25
      show pl _ _ _ (102, [(0, .ref ac), (1, .int (nI k)), (2, .int (nI p))], [.int (nI (sb s 8))], M) _
      refine ps_if (S1 := (109, [], [], M)) (S2 := (105, [(0, .ref ac), (1, .int (nI k)), (2, .int (nI p))], [], M)) rfl rfl rfl (fun c_102 => ?_) (fun c_102 => ?_)
      · have c_102 : ¬ (nI (sb s 8)) = 0 := of_decide_eq_true c_102
        have n_102 : ¬ (sb s 8 = 0) := fun h9 => c_102 ((eq_nI (p := sb s 8) (n := 0) (Nat.lt_trans (sb_lt _ _) (by decide)) (by decide)).mpr h9)
        refine ps_st (S' := (111, [], [.int 34], M)) rfl rfl rfl ?_
        exact ps_ret rfl rfl (Or.inr (Or.inl ⟨34, by
            unfold brS
            first | ((repeat first | rw [if_pos (by omega)] | rw [if_neg (by omega)]) <;> first | rfl | omega) | ((repeat' split) <;> first | rfl | (exfalso; omega) | omega), by decide, rfl, h_vd, hF⟩))
      · have c_102 : ¬ (¬ (nI (sb s 8)) = 0) := of_decide_eq_false c_102
        have n_102 : sb s 8 = 0 := (eq_nI (p := sb s 8) (n := 0) (Nat.lt_trans (sb_lt _ _) (by decide)) (by decide)).mp (Decidable.not_not.mp c_102)
        refine ps_st (S' := (106, [(0, .ref ac), (1, .int (nI k)), (2, .int (nI p))], [.int 0], M)) rfl rfl rfl ?_
        refine ps_st (S' := (111, [], [.int 0], M)) rfl rfl rfl ?_
        exact ps_ret rfl rfl (Or.inl ⟨by
            unfold brS
            first | ((repeat first | rw [if_pos (by omega)] | rw [if_neg (by omega)]) <;> first | rfl | omega) | ((repeat' split) <;> first | rfl | (exfalso; omega) | omega), rfl, h_vd, by rw [if_neg (show ¬ k = 6 by omega), if_neg (show ¬ k = 6 by omega), if_neg (show ¬ k = 5 by omega), if_neg (show ¬ k = 8 by omega), if_neg (show ¬ k = 10 by omega), if_neg (show ¬ k = 9 by omega)]; exact h_c, hF⟩)
  · show pl _ _ _ (112, [(0, .ref ac), (1, .int (nI k)), (2, .int (nI p))], [], M) _
    have m_1 := sw_nat (t := k) (by omega) et_1
    simp at m_1
    have hb8 := s_fe_in (hfe (by omega))
    have hb7 := hb8.1
    have hb9 := hb8.2.2.1 (by omega)
    refine ps_st (S' := (113, [(0, .ref ac), (1, .int (nI k)), (2, .int (nI p))], [.ref ac], M)) rfl rfl rfl ?_
    refine ps_get (S' := (116, [(0, .ref ac), (1, .int (nI k)), (2, .int (nI p))], [.ref c], M)) rfl h_ac rfl rfl ?_
    refine ps_st (S' := (117, [(0, .ref ac), (1, .int (nI k)), (2, .int (nI p))], [.ref ac, .ref c], M)) rfl rfl rfl ?_
    refine ps_get (S' := (120, [(0, .ref ac), (1, .int (nI k)), (2, .int (nI p))], [.ref b, .ref c], M)) rfl h_ac rfl rfl ?_
    refine ps_st (S' := (121, [(0, .ref ac), (1, .int (nI k)), (2, .int (nI p))], [.int (nI p), .ref b, .ref c], M)) rfl rfl rfl ?_
    refine ps_st (S' := (123, [(0, .ref ac), (1, .int (nI k)), (2, .int (nI p))], [.int 6, .int (nI p), .ref b, .ref c], M)) rfl rfl rfl ?_
    refine ps_st (S' := (124, [(0, .ref ac), (1, .int (nI k)), (2, .int (nI p))], [.int ((nI p) + 6), .ref b, .ref c], M)) rfl rfl rfl ?_
    rw [nI_add1 (p := p) (k := 6) (x := 6) rfl (by omega)]
    show pl _ _ _ (_, [(0, .ref ac), (1, .int (nI k)), (2, .int (nI p))], [.int (nI (p + 6)), .ref b, .ref c], M) _
    refine pl_call (a := [.ref b, .int (nI (p + 6))]) (rest := [.ref c]) rfl rfl rfl (dk_u2 (f := f) (n := n) (b := b) (da := da) (p := (p + 6)) h_b h_da (hn) (by omega)) (fun v26 M27 q28 => ?_)
    obtain ⟨rfl, rfl⟩ := q28
    show pl _ _ _ (127, [(0, .ref ac), (1, .int (nI k)), (2, .int (nI p))], [.int (nI (by2 f (p + 6))), .ref c], M) _
    have hu_124 := by2_lt f (p + 6)
    refine ps_put (l' := [.ref b, .ref q, .int mi, .int (nI mj), .int (nI fa), .int (nI ic), .ref fr, .ref mr, .int (nI na), .int (nI pa), .int k1, .int (nI bc), .int (nI bp), .int (nI i4), .int (nI (by2 f (p + 6))), .int (nI i6), .int k7]) rfl h_c rfl rfl (fun M29 h30 f31 z32 => ?_)
    have h33 := (f31 ac (ob_ne h_ac h_c (by decide))).trans h_ac
    have h34 := (f31 b (ob_ne h_b h_c (by decide))).trans h_b
    have h35 := (f31 da (Ne.symm (ob_ar h_c h_da))).trans h_da
    have h36 := (f31 vd (ob_ne h_vd h_c (by decide))).trans h_vd
    have hV37 := hV.put h_c (by decide) f31 z32
    have hF38 := hF.up (by simp) f31 z32
    show pl _ _ _ (130, [(0, .ref ac), (1, .int (nI k)), (2, .int (nI p))], [], M29) _
    refine ps_st (S' := (131, [(0, .ref ac), (1, .int (nI k)), (2, .int (nI p))], [.ref ac], M29)) rfl rfl rfl ?_
    refine ps_st (S' := (132, [(0, .ref ac), (1, .int (nI k)), (2, .int (nI p))], [.int (nI p), .ref ac], M29)) rfl rfl rfl ?_
    refine pl_call (a := [.ref ac, .int (nI p)]) (rest := []) rfl rfl rfl (dk_areClasses (f := f) (n := n) (N := N) (q := q) (E := E) (ac := ac) (c := c) (b := b) (da := da) (vd := vd) (fr := fr) (mr := mr) (fa := fa) (ic := ic) (mj := mj) (na := na) (pa := pa) (mi := mi) (ru := ru) (wa := wa) (s1 := (nI s)) (k1 := k1) (k2 := (nI bc)) (k3 := (nI bp)) (k4 := (nI i4)) (k5 := (nI (by2 f (p + 6)))) (k6 := (nI i6)) (k7 := k7) (p := p) h33 h34 h35 (hn) (by omega) (hV37)) (fun v39 M40 q41 => ?_)
    obtain ⟨rfl, rfl⟩ := q41
    show pl _ _ _ (135, [(0, .ref ac), (1, .int (nI k)), (2, .int (nI p))], [.int (nI (clA f E (p + 8) (by2 f (p + 6)) 0))], M29) _
    refine ps_if (S1 := (151, [], [], M29)) (S2 := (138, [(0, .ref ac), (1, .int (nI k)), (2, .int (nI p))], [], M29)) rfl rfl rfl (fun c_135 => ?_) (fun c_135 => ?_)
    · have c_135 : (nI (clA f E (p + 8) (by2 f (p + 6)) 0)) = 0 := of_decide_eq_true c_135
      have n_135 : clA f E (p + 8) (by2 f (p + 6)) 0 = 0 := (eq_nI (p := clA f E (p + 8) (by2 f (p + 6)) 0) (n := 0) (Nat.lt_trans (le1_cl _ _ _ _ _) (by decide)) (by decide)).mp c_135
      refine ps_st (S' := (153, [], [.int 35], M29)) rfl rfl rfl ?_
      exact ps_ret rfl rfl (Or.inr (Or.inl ⟨35, by
          unfold brS
          first | ((repeat first | rw [if_pos (by omega)] | rw [if_neg (by omega)]) <;> first | rfl | omega) | ((repeat' split) <;> first | rfl | (exfalso; omega) | omega), by decide, rfl, h36, hF38⟩))
    · have c_135 : ¬ ((nI (clA f E (p + 8) (by2 f (p + 6)) 0)) = 0) := of_decide_eq_false c_135
      have n_135 : ¬ (clA f E (p + 8) (by2 f (p + 6)) 0 = 0) := fun h9 => c_135 ((eq_nI (p := clA f E (p + 8) (by2 f (p + 6)) 0) (n := 0) (Nat.lt_trans (le1_cl _ _ _ _ _) (by decide)) (by decide)).mpr h9)
      refine ps_st (S' := (139, [(0, .ref ac), (1, .int (nI k)), (2, .int (nI p))], [.ref ac], M29)) rfl rfl rfl ?_
      refine ps_st (S' := (141, [(0, .ref ac), (1, .int (nI k)), (2, .int (nI p))], [.int 7, .ref ac], M29)) rfl rfl rfl ?_
      refine pl_call (a := [.ref ac, .int 7]) (rest := []) rfl rfl rfl (dk_hasSeen (q := q) (ac := ac) (c := c) (b := b) (vd := vd) (s := s) (k := 7) h33 (by omega) (by omega)) (fun v42 M43 q44 => ?_)
      obtain ⟨rfl, rfl⟩ := q44
      show pl _ _ _ (144, [(0, .ref ac), (1, .int (nI k)), (2, .int (nI p))], [.int (nI (sb s 7))], M29) _
      refine ps_if (S1 := (151, [], [], M29)) (S2 := (147, [(0, .ref ac), (1, .int (nI k)), (2, .int (nI p))], [], M29)) rfl rfl rfl (fun c_144 => ?_) (fun c_144 => ?_)
      · have c_144 : ¬ (nI (sb s 7)) = 0 := of_decide_eq_true c_144
        have n_144 : ¬ (sb s 7 = 0) := fun h9 => c_144 ((eq_nI (p := sb s 7) (n := 0) (Nat.lt_trans (sb_lt _ _) (by decide)) (by decide)).mpr h9)
        refine ps_st (S' := (153, [], [.int 35], M29)) rfl rfl rfl ?_
        exact ps_ret rfl rfl (Or.inr (Or.inl ⟨35, by
            unfold brS
            first | ((repeat first | rw [if_pos (by omega)] | rw [if_neg (by omega)]) <;> first | rfl | omega) | ((repeat' split) <;> first | rfl | (exfalso; omega) | omega), by decide, rfl, h36, hF38⟩))
      · have c_144 : ¬ (¬ (nI (sb s 7)) = 0) := of_decide_eq_false c_144
        have n_144 : sb s 7 = 0 := (eq_nI (p := sb s 7) (n := 0) (Nat.lt_trans (sb_lt _ _) (by decide)) (by decide)).mp (Decidable.not_not.mp c_144)
        refine ps_st (S' := (148, [(0, .ref ac), (1, .int (nI k)), (2, .int (nI p))], [.int 0], M29)) rfl rfl rfl ?_
        refine ps_st (S' := (153, [], [.int 0], M29)) rfl rfl rfl ?_
        exact ps_ret rfl rfl (Or.inl ⟨by
            unfold brS
            first | ((repeat first | rw [if_pos (by omega)] | rw [if_neg (by omega)]) <;> first | rfl | omega) | ((repeat' split) <;> first | rfl | (exfalso; omega) | omega), rfl, h36, by rw [if_neg (show ¬ k = 6 by omega), if_neg (show ¬ k = 6 by omega), if_neg (show ¬ k = 5 by omega), if_pos (show k = 8 by omega), if_neg (show ¬ k = 10 by omega), if_neg (show ¬ k = 9 by omega)]; exact h30, hF38⟩)
  · show pl _ _ _ (154, [(0, .ref ac), (1, .int (nI k)), (2, .int (nI p))], [], M) _
    have m_1 := sw_nat (t := k) (by omega) et_1
    simp at m_1
    have hb8 := s_fe_in (hfe (by omega))
    have hb7 := hb8.1
    have hb9 := hb8.2.2.1 (by omega)
    refine ps_st (S' := (155, [(0, .ref ac), (1, .int (nI k)), (2, .int (nI p))], [.ref ac], M)) rfl rfl rfl ?_
    refine ps_get (S' := (158, [(0, .ref ac), (1, .int (nI k)), (2, .int (nI p))], [.ref c], M)) rfl h_ac rfl rfl ?_
    refine ps_st (S' := (159, [(0, .ref ac), (1, .int (nI k)), (2, .int (nI p))], [.ref ac, .ref c], M)) rfl rfl rfl ?_
    refine ps_get (S' := (162, [(0, .ref ac), (1, .int (nI k)), (2, .int (nI p))], [.ref b, .ref c], M)) rfl h_ac rfl rfl ?_
    refine ps_st (S' := (163, [(0, .ref ac), (1, .int (nI k)), (2, .int (nI p))], [.int (nI p), .ref b, .ref c], M)) rfl rfl rfl ?_
    refine ps_st (S' := (165, [(0, .ref ac), (1, .int (nI k)), (2, .int (nI p))], [.int 6, .int (nI p), .ref b, .ref c], M)) rfl rfl rfl ?_
    refine ps_st (S' := (166, [(0, .ref ac), (1, .int (nI k)), (2, .int (nI p))], [.int ((nI p) + 6), .ref b, .ref c], M)) rfl rfl rfl ?_
    rw [nI_add1 (p := p) (k := 6) (x := 6) rfl (by omega)]
    show pl _ _ _ (_, [(0, .ref ac), (1, .int (nI k)), (2, .int (nI p))], [.int (nI (p + 6)), .ref b, .ref c], M) _
    refine pl_call (a := [.ref b, .int (nI (p + 6))]) (rest := [.ref c]) rfl rfl rfl (dk_u2 (f := f) (n := n) (b := b) (da := da) (p := (p + 6)) h_b h_da (hn) (by omega)) (fun v45 M46 q47 => ?_)
    obtain ⟨rfl, rfl⟩ := q47
    show pl _ _ _ (169, [(0, .ref ac), (1, .int (nI k)), (2, .int (nI p))], [.int (nI (by2 f (p + 6))), .ref c], M) _
    have hu_166 := by2_lt f (p + 6)
    refine ps_put (l' := [.ref b, .ref q, .int mi, .int (nI mj), .int (nI fa), .int (nI ic), .ref fr, .ref mr, .int (nI na), .int (nI pa), .int k1, .int (nI bc), .int (nI bp), .int (nI i4), .int (nI i5), .int (nI (by2 f (p + 6))), .int k7]) rfl h_c rfl rfl (fun M48 h49 f50 z51 => ?_)
    have h52 := (f50 ac (ob_ne h_ac h_c (by decide))).trans h_ac
    have h53 := (f50 b (ob_ne h_b h_c (by decide))).trans h_b
    have h54 := (f50 da (Ne.symm (ob_ar h_c h_da))).trans h_da
    have h55 := (f50 vd (ob_ne h_vd h_c (by decide))).trans h_vd
    have hV56 := hV.put h_c (by decide) f50 z51
    have hF57 := hF.up (by simp) f50 z51
    show pl _ _ _ (172, [(0, .ref ac), (1, .int (nI k)), (2, .int (nI p))], [], M48) _
    refine ps_st (S' := (173, [(0, .ref ac), (1, .int (nI k)), (2, .int (nI p))], [.ref ac], M48)) rfl rfl rfl ?_
    refine ps_st (S' := (174, [(0, .ref ac), (1, .int (nI k)), (2, .int (nI p))], [.int (nI p), .ref ac], M48)) rfl rfl rfl ?_
    refine pl_call (a := [.ref ac, .int (nI p)]) (rest := []) rfl rfl rfl (dk_areClasses (f := f) (n := n) (N := N) (q := q) (E := E) (ac := ac) (c := c) (b := b) (da := da) (vd := vd) (fr := fr) (mr := mr) (fa := fa) (ic := ic) (mj := mj) (na := na) (pa := pa) (mi := mi) (ru := ru) (wa := wa) (s1 := (nI s)) (k1 := k1) (k2 := (nI bc)) (k3 := (nI bp)) (k4 := (nI i4)) (k5 := (nI i5)) (k6 := (nI (by2 f (p + 6)))) (k7 := k7) (p := p) h52 h53 h54 (hn) (by omega) (hV56)) (fun v58 M59 q60 => ?_)
    obtain ⟨rfl, rfl⟩ := q60
    show pl _ _ _ (177, [(0, .ref ac), (1, .int (nI k)), (2, .int (nI p))], [.int (nI (clA f E (p + 8) (by2 f (p + 6)) 0))], M48) _
    refine ps_if (S1 := (196, [], [], M48)) (S2 := (180, [(0, .ref ac), (1, .int (nI k)), (2, .int (nI p))], [], M48)) rfl rfl rfl (fun c_177 => ?_) (fun c_177 => ?_)
    · have c_177 : (nI (clA f E (p + 8) (by2 f (p + 6)) 0)) = 0 := of_decide_eq_true c_177
      have n_177 : clA f E (p + 8) (by2 f (p + 6)) 0 = 0 := (eq_nI (p := clA f E (p + 8) (by2 f (p + 6)) 0) (n := 0) (Nat.lt_trans (le1_cl _ _ _ _ _) (by decide)) (by decide)).mp c_177
      refine ps_st (S' := (198, [], [.int 36], M48)) rfl rfl rfl ?_
      exact ps_ret rfl rfl (Or.inr (Or.inl ⟨36, by
          unfold brS
          first | ((repeat first | rw [if_pos (by omega)] | rw [if_neg (by omega)]) <;> first | rfl | omega) | ((repeat' split) <;> first | rfl | (exfalso; omega) | omega), by decide, rfl, h55, hF57⟩))
    · have c_177 : ¬ ((nI (clA f E (p + 8) (by2 f (p + 6)) 0)) = 0) := of_decide_eq_false c_177
      have n_177 : ¬ (clA f E (p + 8) (by2 f (p + 6)) 0 = 0) := fun h9 => c_177 ((eq_nI (p := clA f E (p + 8) (by2 f (p + 6)) 0) (n := 0) (Nat.lt_trans (le1_cl _ _ _ _ _) (by decide)) (by decide)).mpr h9)
      refine ps_st (S' := (181, [(0, .ref ac), (1, .int (nI k)), (2, .int (nI p))], [.ref ac], M48)) rfl rfl rfl ?_
      refine ps_get (S' := (184, [(0, .ref ac), (1, .int (nI k)), (2, .int (nI p))], [.ref c], M48)) rfl h52 rfl rfl ?_
      refine ps_st (S' := (186, [(0, .ref ac), (1, .int (nI k)), (2, .int (nI p))], [.int 16, .ref c], M48)) rfl rfl rfl ?_
      refine pl_call (a := [.ref c, .int 16]) (rest := []) rfl rfl rfl (dk_fhas (f := f) (n := n) (q := q) (c := c) (b := b) (da := da) (fr := fr) (mr := mr) (fa := fa) (ic := ic) (mj := mj) (na := na) (pa := pa) (mi := mi) (k1 := k1) (k2 := (nI bc)) (k3 := (nI bp)) (k4 := (nI i4)) (k5 := (nI i5)) (k6 := (nI (by2 f (p + 6)))) (k7 := k7) (x := 16) h49 h53 h54 (hn) (hfa)) (fun v61 M62 q63 => ?_)
      obtain ⟨rfl, rfl⟩ := q63
      show pl _ _ _ (189, [(0, .ref ac), (1, .int (nI k)), (2, .int (nI p))], [.int (nI (hasN (by2 f fa) 16))], M48) _
      refine ps_if (S1 := (196, [], [], M48)) (S2 := (192, [(0, .ref ac), (1, .int (nI k)), (2, .int (nI p))], [], M48)) rfl rfl rfl (fun c_189 => ?_) (fun c_189 => ?_)
      · have c_189 : ¬ (nI (hasN (by2 f fa) 16)) = 0 := of_decide_eq_true c_189
        have n_189 : ¬ (hasN (by2 f fa) 16 = 0) := fun h9 => c_189 ((eq_nI (p := hasN (by2 f fa) 16) (n := 0) (Nat.lt_trans (le1_has _ _) (by decide)) (by decide)).mpr h9)
        refine ps_st (S' := (198, [], [.int 36], M48)) rfl rfl rfl ?_
        exact ps_ret rfl rfl (Or.inr (Or.inl ⟨36, by
            unfold brS
            first | ((repeat first | rw [if_pos (by omega)] | rw [if_neg (by omega)]) <;> first | rfl | omega) | ((repeat' split) <;> first | rfl | (exfalso; omega) | omega), by decide, rfl, h55, hF57⟩))
      · have c_189 : ¬ (¬ (nI (hasN (by2 f fa) 16)) = 0) := of_decide_eq_false c_189
        have n_189 : hasN (by2 f fa) 16 = 0 := (eq_nI (p := hasN (by2 f fa) 16) (n := 0) (Nat.lt_trans (le1_has _ _) (by decide)) (by decide)).mp (Decidable.not_not.mp c_189)
        refine ps_st (S' := (193, [(0, .ref ac), (1, .int (nI k)), (2, .int (nI p))], [.int 0], M48)) rfl rfl rfl ?_
        refine ps_st (S' := (198, [], [.int 0], M48)) rfl rfl rfl ?_
        exact ps_ret rfl rfl (Or.inl ⟨by
            unfold brS
            first | ((repeat first | rw [if_pos (by omega)] | rw [if_neg (by omega)]) <;> first | rfl | omega) | ((repeat' split) <;> first | rfl | (exfalso; omega) | omega), rfl, h55, by rw [if_neg (show ¬ k = 6 by omega), if_neg (show ¬ k = 6 by omega), if_neg (show ¬ k = 5 by omega), if_neg (show ¬ k = 8 by omega), if_pos (show k = 10 by omega), if_neg (show ¬ k = 9 by omega)]; exact h49, hF57⟩)
  · show pl _ _ _ (199, [(0, .ref ac), (1, .int (nI k)), (2, .int (nI p))], [], M) _
    have m_1 := sw_nat (t := k) (by omega) et_1
    simp at m_1
    have hb8 := s_fe_in (hfe (by omega))
    have hb7 := hb8.1
    have hb9 := hb8.2.2.2.2.2.1 (by omega)
    refine ps_st (S' := (200, [(0, .ref ac), (1, .int (nI k)), (2, .int (nI p))], [.ref ac], M)) rfl rfl rfl ?_
    refine ps_get (S' := (203, [(0, .ref ac), (1, .int (nI k)), (2, .int (nI p))], [.ref c], M)) rfl h_ac rfl rfl ?_
    refine ps_st (S' := (204, [(0, .ref ac), (1, .int (nI k)), (2, .int (nI p))], [.ref ac, .ref c], M)) rfl rfl rfl ?_
    refine ps_get (S' := (207, [(0, .ref ac), (1, .int (nI k)), (2, .int (nI p))], [.ref b, .ref c], M)) rfl h_ac rfl rfl ?_
    refine ps_st (S' := (208, [(0, .ref ac), (1, .int (nI k)), (2, .int (nI p))], [.int (nI p), .ref b, .ref c], M)) rfl rfl rfl ?_
    refine ps_st (S' := (210, [(0, .ref ac), (1, .int (nI k)), (2, .int (nI p))], [.int 6, .int (nI p), .ref b, .ref c], M)) rfl rfl rfl ?_
    refine ps_st (S' := (211, [(0, .ref ac), (1, .int (nI k)), (2, .int (nI p))], [.int ((nI p) + 6), .ref b, .ref c], M)) rfl rfl rfl ?_
    rw [nI_add1 (p := p) (k := 6) (x := 6) rfl (by omega)]
    show pl _ _ _ (_, [(0, .ref ac), (1, .int (nI k)), (2, .int (nI p))], [.int (nI (p + 6)), .ref b, .ref c], M) _
    refine pl_call (a := [.ref b, .int (nI (p + 6))]) (rest := [.ref c]) rfl rfl rfl (dk_u2 (f := f) (n := n) (b := b) (da := da) (p := (p + 6)) h_b h_da (hn) (by omega)) (fun v64 M65 q66 => ?_)
    obtain ⟨rfl, rfl⟩ := q66
    show pl _ _ _ (214, [(0, .ref ac), (1, .int (nI k)), (2, .int (nI p))], [.int (nI (by2 f (p + 6))), .ref c], M) _
    have hu_211 := by2_lt f (p + 6)
    refine ps_put (l' := [.ref b, .ref q, .int mi, .int (nI mj), .int (nI fa), .int (nI ic), .ref fr, .ref mr, .int (nI na), .int (nI pa), .int k1, .int (nI bc), .int (nI bp), .int (nI i4), .int (nI i5), .int (nI i6), .int (nI (by2 f (p + 6)))]) rfl h_c rfl rfl (fun M67 h68 f69 z70 => ?_)
    have h71 := (f69 ac (ob_ne h_ac h_c (by decide))).trans h_ac
    have h72 := (f69 b (ob_ne h_b h_c (by decide))).trans h_b
    have h73 := (f69 da (Ne.symm (ob_ar h_c h_da))).trans h_da
    have h74 := (f69 vd (ob_ne h_vd h_c (by decide))).trans h_vd
    have hV75 := hV.put h_c (by decide) f69 z70
    have hF76 := hF.up (by simp) f69 z70
    show pl _ _ _ (217, [(0, .ref ac), (1, .int (nI k)), (2, .int (nI p))], [], M67) _
    refine ps_st (S' := (218, [(0, .ref ac), (1, .int (nI k)), (2, .int (nI p))], [.ref ac], M67)) rfl rfl rfl ?_
    refine ps_st (S' := (219, [(0, .ref ac), (1, .int (nI k)), (2, .int (nI p))], [.int (nI p), .ref ac], M67)) rfl rfl rfl ?_
    refine pl_call (a := [.ref ac, .int (nI p)]) (rest := []) rfl rfl rfl (dk_recordHolds (f := f) (n := n) (N := N) (q := q) (E := E) (ac := ac) (c := c) (b := b) (da := da) (vd := vd) (fr := fr) (mr := mr) (fa := fa) (ic := ic) (mj := mj) (na := na) (pa := pa) (mi := mi) (ru := ru) (wa := wa) (s1 := (nI s)) (k1 := k1) (k2 := (nI bc)) (k3 := (nI bp)) (k4 := (nI i4)) (k5 := (nI i5)) (k6 := (nI i6)) (p := p) (ct := (by2 f (p + 6))) (e := e) h71 h72 h73 h68 h74 (hn) (by2_lt _ _) (he) (by omega) (hb9) (hV75)) (fun v77 M78 q79 => ?_)
    rcases q79 with q79 | q79
    · skip
      obtain ⟨q219_s, rfl, h80, f81⟩ := q79
      have h83 := (f81.1 ac (nin1 (ob_ne h71 h74 (by decide)))).trans h71
      have h84 := (f81.1 b (nin1 (ob_ne h72 h74 (by decide)))).trans h72
      have h85 := (f81.1 da (nin1 (Ne.symm (ob_ar h74 h73)))).trans h73
      have h86 := (f81.1 c (nin1 (ob_ne h68 h74 (by decide)))).trans h68
      have hF87 := hF76.tr f81 (by simp)
      have hV88 := hV75.keep f81.gm (n7c h74 (by decide) (n7nil))
      show pl _ _ _ (222, [(0, .ref ac), (1, .int (nI k)), (2, .int (nI p))], [.int 1], M78) _
      refine ps_if (S1 := (229, [(0, .ref ac), (1, .int (nI k)), (2, .int (nI p))], [], M78)) (S2 := (225, [(0, .ref ac), (1, .int (nI k)), (2, .int (nI p))], [], M78)) rfl rfl rfl (fun c_222 => ?_) (fun c_222 => ?_)
      · exact absurd (of_decide_eq_true c_222) (by decide)
      refine ps_st (S' := (226, [(0, .ref ac), (1, .int (nI k)), (2, .int (nI p))], [.int 0], M78)) rfl rfl rfl ?_
      refine ps_st (S' := (230, [], [.int 0], M78)) rfl rfl rfl ?_
      exact ps_ret rfl rfl (Or.inl ⟨by
          unfold brS
          rw [if_neg (by omega), if_neg (by omega), if_neg (by omega), if_neg (by omega), if_pos (by omega), q219_s], rfl, h80, by rw [if_neg (show ¬ k = 6 by omega), if_neg (show ¬ k = 6 by omega), if_neg (show ¬ k = 5 by omega), if_neg (show ¬ k = 8 by omega), if_neg (show ¬ k = 10 by omega), if_pos (show k = 9 by omega)]; exact h86, hF87⟩)
    · skip
      obtain ⟨e989, q219_s, rfl, h90, f91⟩ := q79
      have h93 := (f91.1 ac (nin1 (ob_ne h71 h74 (by decide)))).trans h71
      have h94 := (f91.1 b (nin1 (ob_ne h72 h74 (by decide)))).trans h72
      have h95 := (f91.1 da (nin1 (Ne.symm (ob_ar h74 h73)))).trans h73
      have h96 := (f91.1 c (nin1 (ob_ne h68 h74 (by decide)))).trans h68
      have hF97 := hF76.tr f91 (by simp)
      have hV98 := hV75.keep f91.gm (n7c h74 (by decide) (n7nil))
      show pl _ _ _ (222, [(0, .ref ac), (1, .int (nI k)), (2, .int (nI p))], [.int 0], M78) _
      refine ps_if (S1 := (229, [(0, .ref ac), (1, .int (nI k)), (2, .int (nI p))], [], M78)) (S2 := (225, [(0, .ref ac), (1, .int (nI k)), (2, .int (nI p))], [], M78)) rfl rfl rfl (fun c_222 => ?_) (fun c_222 => ?_)
      rotate_left
      · exact absurd (by decide) (of_decide_eq_false c_222)
      refine ps_st (S' := (230, [], [.int (-1)], M78)) rfl rfl rfl ?_
      exact ps_ret rfl rfl (Or.inr (Or.inr ⟨e989, by
          unfold brS
          rw [if_neg (by omega), if_neg (by omega), if_neg (by omega), if_neg (by omega), if_pos (by omega), q219_s], rfl, h90, hF97⟩))
  · show pl _ _ _ (231, [(0, .ref ac), (1, .int (nI k)), (2, .int (nI p))], [], M) _
    have m_1 := sw_nat (t := k) (by omega) et_1
    simp at m_1
    have hb8 := s_fe_in (hfe (by omega))
    have hb7 := hb8.1
    have hb9 := hb8.2.2.2.2.1 (by omega)
    refine ps_st (S' := (232, [(0, .ref ac), (1, .int (nI k)), (2, .int (nI p))], [.ref ac], M)) rfl rfl rfl ?_
    refine ps_get (S' := (235, [(0, .ref ac), (1, .int (nI k)), (2, .int (nI p))], [.ref c], M)) rfl h_ac rfl rfl ?_
    refine ps_st (S' := (236, [(0, .ref ac), (1, .int (nI k)), (2, .int (nI p))], [.ref ac, .ref c], M)) rfl rfl rfl ?_
    refine ps_get (S' := (239, [(0, .ref ac), (1, .int (nI k)), (2, .int (nI p))], [.ref b, .ref c], M)) rfl h_ac rfl rfl ?_
    refine ps_st (S' := (240, [(0, .ref ac), (1, .int (nI k)), (2, .int (nI p))], [.int (nI p), .ref b, .ref c], M)) rfl rfl rfl ?_
    refine ps_st (S' := (242, [(0, .ref ac), (1, .int (nI k)), (2, .int (nI p))], [.int 6, .int (nI p), .ref b, .ref c], M)) rfl rfl rfl ?_
    refine ps_st (S' := (243, [(0, .ref ac), (1, .int (nI k)), (2, .int (nI p))], [.int ((nI p) + 6), .ref b, .ref c], M)) rfl rfl rfl ?_
    rw [nI_add1 (p := p) (k := 6) (x := 6) rfl (by omega)]
    show pl _ _ _ (_, [(0, .ref ac), (1, .int (nI k)), (2, .int (nI p))], [.int (nI (p + 6)), .ref b, .ref c], M) _
    refine pl_call (a := [.ref b, .int (nI (p + 6))]) (rest := [.ref c]) rfl rfl rfl (dk_u2 (f := f) (n := n) (b := b) (da := da) (p := (p + 6)) h_b h_da (hn) (by omega)) (fun v99 M100 q101 => ?_)
    obtain ⟨rfl, rfl⟩ := q101
    show pl _ _ _ (246, [(0, .ref ac), (1, .int (nI k)), (2, .int (nI p))], [.int (nI (by2 f (p + 6))), .ref c], M) _
    have hu_243 := by2_lt f (p + 6)
    refine ps_put (l' := [.ref b, .ref q, .int mi, .int (nI mj), .int (nI fa), .int (nI ic), .ref fr, .ref mr, .int (nI na), .int (nI pa), .int k1, .int (nI (by2 f (p + 6))), .int (nI bp), .int (nI i4), .int (nI i5), .int (nI i6), .int k7]) rfl h_c rfl rfl (fun M102 h103 f104 z105 => ?_)
    have h106 := (f104 ac (ob_ne h_ac h_c (by decide))).trans h_ac
    have h107 := (f104 b (ob_ne h_b h_c (by decide))).trans h_b
    have h108 := (f104 da (Ne.symm (ob_ar h_c h_da))).trans h_da
    have h109 := (f104 vd (ob_ne h_vd h_c (by decide))).trans h_vd
    have hV110 := hV.put h_c (by decide) f104 z105
    have hF111 := hF.up (by simp) f104 z105
    show pl _ _ _ (249, [(0, .ref ac), (1, .int (nI k)), (2, .int (nI p))], [], M102) _
    refine ps_st (S' := (250, [(0, .ref ac), (1, .int (nI k)), (2, .int (nI p))], [.ref ac], M102)) rfl rfl rfl ?_
    refine ps_get (S' := (253, [(0, .ref ac), (1, .int (nI k)), (2, .int (nI p))], [.ref c], M102)) rfl h106 rfl rfl ?_
    refine ps_st (S' := (254, [(0, .ref ac), (1, .int (nI k)), (2, .int (nI p))], [.int (nI p), .ref c], M102)) rfl rfl rfl ?_
    refine ps_st (S' := (256, [(0, .ref ac), (1, .int (nI k)), (2, .int (nI p))], [.int 8, .int (nI p), .ref c], M102)) rfl rfl rfl ?_
    refine ps_st (S' := (257, [(0, .ref ac), (1, .int (nI k)), (2, .int (nI p))], [.int ((nI p) + 8), .ref c], M102)) rfl rfl rfl ?_
    rw [nI_add1 (p := p) (k := 8) (x := 8) rfl (by omega)]
    show pl _ _ _ (_, [(0, .ref ac), (1, .int (nI k)), (2, .int (nI p))], [.int (nI (p + 8)), .ref c], M102) _
    refine ps_put (l' := [.ref b, .ref q, .int mi, .int (nI mj), .int (nI fa), .int (nI ic), .ref fr, .ref mr, .int (nI na), .int (nI pa), .int k1, .int (nI (by2 f (p + 6))), .int (nI (p + 8)), .int (nI i4), .int (nI i5), .int (nI i6), .int k7]) rfl h103 rfl rfl (fun M112 h113 f114 z115 => ?_)
    have h116 := (f114 ac (ob_ne h106 h103 (by decide))).trans h106
    have h117 := (f114 b (ob_ne h107 h103 (by decide))).trans h107
    have h118 := (f114 da (Ne.symm (ob_ar h103 h108))).trans h108
    have h119 := (f114 vd (ob_ne h109 h103 (by decide))).trans h109
    have hV120 := hV110.put h103 (by decide) f114 z115
    have hF121 := hF111.up (by simp) f114 z115
    show pl _ _ _ (260, [(0, .ref ac), (1, .int (nI k)), (2, .int (nI p))], [], M112) _
    refine ps_st (S' := (261, [(0, .ref ac), (1, .int (nI k)), (2, .int (nI p))], [.ref ac], M112)) rfl rfl rfl ?_
    refine pl_call (a := [.ref ac]) (rest := []) rfl rfl rfl (dk_bsHold (f := f) (n := n) (N := N) (q := q) (E := E) (ac := ac) (c := c) (b := b) (da := da) (vd := vd) (fr := fr) (mr := mr) (fa := fa) (ic := ic) (mj := mj) (na := na) (pa := pa) (mi := mi) (ru := ru) (wa := wa) (s1 := (nI s)) (k1 := k1) (k2 := 0) (k3 := 0) (k4 := (nI i4)) (k5 := (nI i5)) (k6 := (nI i6)) (k7 := k7) (p0 := (p + 8)) (ct := (by2 f (p + 6))) (e := e) h116 h117 h118 h113 (hn) (by2_lt _ _) (he) (hb9) (hV120)) (fun v122 M123 q124 => ?_)
    obtain ⟨rfl, rfl⟩ := q124
    show pl _ _ _ (264, [(0, .ref ac), (1, .int (nI k)), (2, .int (nI p))], [.int (nI (bsA f E (by2 f (p + 6)) (p + 8)))], M112) _
    refine ps_if (S1 := (271, [(0, .ref ac), (1, .int (nI k)), (2, .int (nI p))], [], M112)) (S2 := (267, [(0, .ref ac), (1, .int (nI k)), (2, .int (nI p))], [], M112)) rfl rfl rfl (fun c_264 => ?_) (fun c_264 => ?_)
    · have c_264 : (nI (bsA f E (by2 f (p + 6)) (p + 8))) = 0 := of_decide_eq_true c_264
      have n_264 : bsA f E (by2 f (p + 6)) (p + 8) = 0 := (eq_nI (p := bsA f E (by2 f (p + 6)) (p + 8)) (n := 0) (Nat.lt_trans (le1_bsa _ _ _ _) (by decide)) (by decide)).mp c_264
      refine ps_st (S' := (273, [], [.int 38], M112)) rfl rfl rfl ?_
      exact ps_ret rfl rfl (Or.inr (Or.inl ⟨38, by
          unfold brS
          first | ((repeat first | rw [if_pos (by omega)] | rw [if_neg (by omega)]) <;> first | rfl | omega) | ((repeat' split) <;> first | rfl | (exfalso; omega) | omega), by decide, rfl, h119, hF121⟩))
    · have c_264 : ¬ ((nI (bsA f E (by2 f (p + 6)) (p + 8))) = 0) := of_decide_eq_false c_264
      have n_264 : ¬ (bsA f E (by2 f (p + 6)) (p + 8) = 0) := fun h9 => c_264 ((eq_nI (p := bsA f E (by2 f (p + 6)) (p + 8)) (n := 0) (Nat.lt_trans (le1_bsa _ _ _ _) (by decide)) (by decide)).mpr h9)
      refine ps_st (S' := (268, [(0, .ref ac), (1, .int (nI k)), (2, .int (nI p))], [.int 0], M112)) rfl rfl rfl ?_
      refine ps_st (S' := (273, [], [.int 0], M112)) rfl rfl rfl ?_
      exact ps_ret rfl rfl (Or.inl ⟨by
          unfold brS
          first | ((repeat first | rw [if_pos (by omega)] | rw [if_neg (by omega)]) <;> first | rfl | omega) | ((repeat' split) <;> first | rfl | (exfalso; omega) | omega), rfl, h119, by rw [if_pos (show k = 6 by omega), if_pos (show k = 6 by omega), if_neg (show ¬ k = 5 by omega), if_neg (show ¬ k = 8 by omega), if_neg (show ¬ k = 10 by omega), if_neg (show ¬ k = 9 by omega)]; exact h113, hF121⟩)
  · show pl _ _ _ (274, [(0, .ref ac), (1, .int (nI k)), (2, .int (nI p))], [], M) _
    have m_1 := sw_nat (t := k) (by omega) et_1
    simp at m_1
    refine ps_st (S' := (275, [(0, .ref ac), (1, .int (nI k)), (2, .int (nI p))], [.int 0], M)) rfl rfl rfl ?_
    exact ps_ret rfl rfl (Or.inl ⟨by
        unfold brS
        first | ((repeat first | rw [if_pos (by omega)] | rw [if_neg (by omega)]) <;> first | rfl | omega) | ((repeat' split) <;> first | rfl | (exfalso; omega) | omega), rfl, h_vd, by rw [if_neg (show ¬ k = 6 by omega), if_neg (show ¬ k = 6 by omega), if_neg (show ¬ k = 5 by omega), if_neg (show ¬ k = 8 by omega), if_neg (show ¬ k = 10 by omega), if_neg (show ¬ k = 9 by omega)]; exact h_c, hF⟩)
set_option maxHeartbeats 1000000 in
theorem dk_ofField {g : xe_G} {M : mi_H} {f : Nat → Int32} {n N q : Nat} {E : List (Nat × Nat)} {ac c b da vd fr mr fa ic mj na pa : Nat} {mi ru wa s1 k1 k2 k3 k4 k5 k6 k7 : Int32} {a b0 e0 : Nat} {kn co ap ex : Int32} {cd : Value} (h_ac : M.1 ac = some (ob 0 [.ref c, .ref b, .ref q, .ref vd, .int s1])) (h_b : M.1 b = some (ob 1 [.ref da])) (h_da : M.1 da = some (ar .byte n f)) (h_c : M.1 c = some (ob 3 [.ref b, .ref q, .int mi, .int (nI mj), .int (nI fa), .int (nI ic), .ref fr, .ref mr, .int (nI na), .int (nI pa), .int k1, .int k2, .int k3, .int k4, .int k5, .int k6, .int k7])) (h_vd : M.1 vd = some (ob 10 [.int ru, .int wa])) (h_a : M.1 a = some (ob 6 [.int (nI b0), .int (nI (by2 f b0)), .int (nI (by2 f (b0 + 2))), .int (nI (by2 f (b0 + 4))), .int (nI (by2 f (b0 + 6))), .int (nI (b0 + 8)), .int kn, .int co, .int ap, .int ex, cd])) (hn : n ≤ 65540) (hmj : mj < 65536) (hb1 : b0 + 8 ≤ n) (hat : s_atts f n (by2 f (b0 + 6)) (b0 + 8) = .inr e0) (hV : PV g f n N E q M) : pt (mT g) 39 [.ref ac, .ref a] M (fun v M' => (∃ (s2 kn2 co2 : Int32), (faS f n E (by2 f b0) (tX f n E (by2 f (b0 + 4))) (by2 f (b0 + 6)) (b0 + 8) 0 = none) ∧ v = some (.int 1) ∧ M'.1 vd = some (ob 10 [.int ru, .int wa]) ∧ M'.1 ac = some (ob 0 [.ref c, .ref b, .ref q, .ref vd, .int s2]) ∧ M'.1 a = some (ob 6 [.int (nI b0), .int (nI (by2 f b0)), .int (nI (by2 f (b0 + 2))), .int (nI (by2 f (b0 + 4))), .int (nI (by2 f (b0 + 6))), .int (nI (b0 + 8)), .int kn2, .int co2, .int ap, .int ex, cd]) ∧ fm [ac, vd, a] M M') ∨ (∃ (e9 : Nat × Nat), (faS f n E (by2 f b0) (tX f n E (by2 f (b0 + 4))) (by2 f (b0 + 6)) (b0 + 8) 0 = some e9) ∧ v = some (.int 0) ∧ M'.1 vd = some (ob 10 [.int (nI e9.1), .int (nI e9.2)]) ∧ fm [ac, vd, a] M M')) := by
  refine pt_in (b := mb_39 g) rfl (fun kf => ?_)
  show pl (mT g) kf (mb_39 g).2 (0, [(0, .ref ac), (1, .ref a)], [], M) _
  have hF : fm [ac, vd, a] M M := fm.rf
  have LL : ∀ (kf : Nat), (∀ (i p s2 : Nat) (kn2 co2 : Int32) (M1 : mi_H), (M1.1 ac = some (ob 0 [.ref c, .ref b, .ref q, .ref vd, .int (nI s2)])) → (M1.1 b = some (ob 1 [.ref da])) → (M1.1 da = some (ar .byte n f)) → (M1.1 c = some (ob 3 [.ref b, .ref q, .int mi, .int (nI mj), .int (nI fa), .int (nI ic), .ref fr, .ref mr, .int (nI na), .int (nI pa), .int k1, .int k2, .int k3, .int k4, .int k5, .int k6, .int k7])) → (M1.1 vd = some (ob 10 [.int ru, .int wa])) → (M1.1 a = some (ob 6 [.int (nI b0), .int (nI (by2 f b0)), .int (nI (by2 f (b0 + 2))), .int (nI (by2 f (b0 + 4))), .int (nI (by2 f (b0 + 6))), .int (nI (b0 + 8)), .int kn2, .int co2, .int ap, .int ex, cd])) → (PV g f n N E q M1) → (fm [ac, vd, a] M M1) → (i ≤ by2 f (b0 + 6)) → (s2 < 2048) → (s_atts f n (by2 f (b0 + 6) - i) p = .inr e0) → (faS f n E (by2 f b0) (tX f n E (by2 f (b0 + 4))) (by2 f (b0 + 6) - i) p s2 = faS f n E (by2 f b0) (tX f n E (by2 f (b0 + 4))) (by2 f (b0 + 6)) (b0 + 8) 0) →  pl (mT g) kf (mb_39 g).2 (12, [(0, .ref ac), (1, .ref a), (2, .int (nI p)), (3, .int (nI i))], [], M1) (fun v M' => (∃ (s2 kn2 co2 : Int32), (faS f n E (by2 f b0) (tX f n E (by2 f (b0 + 4))) (by2 f (b0 + 6)) (b0 + 8) 0 = none) ∧ v = some (.int 1) ∧ M'.1 vd = some (ob 10 [.int ru, .int wa]) ∧ M'.1 ac = some (ob 0 [.ref c, .ref b, .ref q, .ref vd, .int s2]) ∧ M'.1 a = some (ob 6 [.int (nI b0), .int (nI (by2 f b0)), .int (nI (by2 f (b0 + 2))), .int (nI (by2 f (b0 + 4))), .int (nI (by2 f (b0 + 6))), .int (nI (b0 + 8)), .int kn2, .int co2, .int ap, .int ex, cd]) ∧ fm [ac, vd, a] M M') ∨ (∃ (e9 : Nat × Nat), (faS f n E (by2 f b0) (tX f n E (by2 f (b0 + 4))) (by2 f (b0 + 6)) (b0 + 8) 0 = some e9) ∧ v = some (.int 0) ∧ M'.1 vd = some (ob 10 [.int (nI e9.1), .int (nI e9.2)]) ∧ fm [ac, vd, a] M M'))) := by
    intro kf
    induction kf with
    | zero => exact (by intros; exact pl_0)
    | succ kf ih =>
      intro i p s2 kn2 co2 M1 hl_ac hl_b hl_da hl_c hl_vd hl_a hV1 hF1 hi hl ha hs9
      have hu9 := by2_lt f (b0 + 6)
      refine ps_st1 (S' := (13, [(0, .ref ac), (1, .ref a), (2, .int (nI p)), (3, .int (nI i))], [.int (nI i)], M1)) rfl rfl rfl ?_
      refine ps_st (S' := (14, [(0, .ref ac), (1, .ref a), (2, .int (nI p)), (3, .int (nI i))], [.ref a, .int (nI i)], M1)) rfl rfl rfl ?_
      refine ps_get (S' := (17, [(0, .ref ac), (1, .ref a), (2, .int (nI p)), (3, .int (nI i))], [.int (nI (by2 f (b0 + 6))), .int (nI i)], M1)) rfl hl_a rfl rfl ?_
      refine ps_if2 (S1 := (173, [(0, .ref ac), (1, .ref a), (2, .int (nI p)), (3, .int (nI i))], [], M1)) (S2 := (20, [(0, .ref ac), (1, .ref a), (2, .int (nI p)), (3, .int (nI i))], [], M1)) rfl rfl rfl (fun c_17 => ?_) (fun c_17 => ?_)
      · have c_17 : (nI (by2 f (b0 + 6))) ≤ (nI i) := of_decide_eq_true c_17
        have n_17 : by2 f (b0 + 6) ≤ i := (le_nI (p := by2 f (b0 + 6)) (n := i) (Nat.lt_trans (by2_lt _ _) (by decide)) (by omega)).mp c_17
        refine ps_st (S' := (174, [(0, .ref ac), (1, .ref a), (2, .int (nI p)), (3, .int (nI i))], [.ref a], M1)) rfl rfl rfl ?_
        refine ps_st (S' := (175, [(0, .ref ac), (1, .ref a), (2, .int (nI p)), (3, .int (nI i))], [.ref ac, .ref a], M1)) rfl rfl rfl ?_
        refine ps_get (S' := (178, [(0, .ref ac), (1, .ref a), (2, .int (nI p)), (3, .int (nI i))], [.int (nI s2), .ref a], M1)) rfl hl_ac rfl rfl ?_
        refine pl_call (a := [.int (nI s2)]) (rest := [.ref a]) rfl rfl rfl (dk_bitCountA (y := (nI s2))) (fun v1 M2 q3 => ?_)
        obtain ⟨x4, rfl, rfl⟩ := q3
        show pl _ _ _ (181, [(0, .ref ac), (1, .ref a), (2, .int (nI p)), (3, .int (nI i))], [.int x4, .ref a], M1) _
        refine ps_put (l' := [.int (nI b0), .int (nI (by2 f b0)), .int (nI (by2 f (b0 + 2))), .int (nI (by2 f (b0 + 4))), .int (nI (by2 f (b0 + 6))), .int (nI (b0 + 8)), .int x4, .int co2, .int ap, .int ex, cd]) rfl hl_a rfl rfl (fun M5 h6 f7 z8 => ?_)
        have h9 := (f7 ac (ob_ne hl_ac hl_a (by decide))).trans hl_ac
        have h10 := (f7 b (ob_ne hl_b hl_a (by decide))).trans hl_b
        have h11 := (f7 da (Ne.symm (ob_ar hl_a hl_da))).trans hl_da
        have h12 := (f7 c (ob_ne hl_c hl_a (by decide))).trans hl_c
        have h13 := (f7 vd (ob_ne hl_vd hl_a (by decide))).trans hl_vd
        have hV14 := hV1.put hl_a (by decide) f7 z8
        have hF15 := hF1.up (by simp) f7 z8
        show pl _ _ _ (184, [(0, .ref ac), (1, .ref a), (2, .int (nI p)), (3, .int (nI i))], [], M5) _
        refine ps_st (S' := (185, [(0, .ref ac), (1, .ref a), (2, .int (nI p)), (3, .int (nI i))], [.int 1], M5)) rfl rfl rfl ?_
        exact ps_ret rfl rfl (Or.inl ⟨_, _, _, by rw [← hs9, show by2 f (b0 + 6) - i = 0 by omega]; rfl, rfl, h13, h9, h6, hF15⟩)
      · have c_17 : ¬ ((nI (by2 f (b0 + 6))) ≤ (nI i)) := of_decide_eq_false c_17
        have n_17 : ¬ (by2 f (b0 + 6) ≤ i) := fun h9 => c_17 ((le_nI (p := by2 f (b0 + 6)) (n := i) (Nat.lt_trans (by2_lt _ _) (by decide)) (by omega)).mpr h9)
        obtain ⟨hq5, hq6, hq7⟩ := s_atts_in (i := i) (p := p) ha (by omega)
        refine ps_st (S' := (21, [(0, .ref ac), (1, .ref a), (2, .int (nI p)), (3, .int (nI i))], [.ref ac], M1)) rfl rfl rfl ?_
        refine ps_get (S' := (24, [(0, .ref ac), (1, .ref a), (2, .int (nI p)), (3, .int (nI i))], [.ref q], M1)) rfl hl_ac rfl rfl ?_
        refine ps_st (S' := (25, [(0, .ref ac), (1, .ref a), (2, .int (nI p)), (3, .int (nI i))], [.ref ac, .ref q], M1)) rfl rfl rfl ?_
        refine ps_get (S' := (28, [(0, .ref ac), (1, .ref a), (2, .int (nI p)), (3, .int (nI i))], [.ref b, .ref q], M1)) rfl hl_ac rfl rfl ?_
        refine ps_st (S' := (29, [(0, .ref ac), (1, .ref a), (2, .int (nI p)), (3, .int (nI i))], [.int (nI p), .ref b, .ref q], M1)) rfl rfl rfl ?_
        refine pl_call (a := [.ref b, .int (nI p)]) (rest := [.ref q]) rfl rfl rfl (dk_u2 (f := f) (n := n) (b := b) (da := da) (p := p) hl_b hl_da (hn) (by omega)) (fun v16 M17 q18 => ?_)
        obtain ⟨rfl, rfl⟩ := q18
        show pl _ _ _ (32, [(0, .ref ac), (1, .ref a), (2, .int (nI p)), (3, .int (nI i))], [.int (nI (by2 f p)), .ref q], M1) _
        have hu_29 := by2_lt f p
        refine ps_st (S' := (34, [(0, .ref ac), (1, .ref a), (2, .int (nI p)), (3, .int (nI i))], [.ref (g.2.1 0), .int (nI (by2 f p)), .ref q], M1)) rfl rfl rfl ?_
        refine pl_call (a := [.ref q, .int (nI (by2 f p)), .ref (g.2.1 0)]) (rest := []) rfl rfl rfl (dy_textIs (f := f) (n := n) (N := N) (q := q) (E := E) (j := (by2 f p)) (k := 0) (hV1) (by2_lt _ _) (by decide)) (fun v19 M20 q21 => ?_)
        obtain ⟨rfl, rfl⟩ := q21
        show pl _ _ _ (37, [(0, .ref ac), (1, .ref a), (2, .int (nI p)), (3, .int (nI i))], [.int (nI (eqN (tX f n E (by2 f p)) (ltx 0)))], M1) _
        refine ps_if (S1 := (44, [(0, .ref ac), (1, .ref a), (2, .int (nI p)), (3, .int (nI i))], [], M1)) (S2 := (40, [(0, .ref ac), (1, .ref a), (2, .int (nI p)), (3, .int (nI i))], [], M1)) rfl rfl rfl (fun c_37 => ?_) (fun c_37 => ?_)
        · have c_37 : (nI (eqN (tX f n E (by2 f p)) (ltx 0))) = 0 := of_decide_eq_true c_37
          have n_37 : eqN (tX f n E (by2 f p)) (ltx 0) = 0 := (eq_nI (p := eqN (tX f n E (by2 f p)) (ltx 0)) (n := 0) (Nat.lt_trans (le1_eq _ _) (by decide)) (by decide)).mp c_37
          refine ps_st (S' := (45, [(0, .ref ac), (1, .ref a), (2, .int (nI p)), (3, .int (nI i))], [.int 0], M1)) rfl rfl rfl ?_
          refine ps_st (S' := (47, [(4, .int 0), (0, .ref ac), (1, .ref a), (2, .int (nI p)), (3, .int (nI i))], [], M1)) rfl rfl rfl ?_
          refine ps_st (S' := (48, [(4, .int 0), (0, .ref ac), (1, .ref a), (2, .int (nI p)), (3, .int (nI i))], [.ref ac], M1)) rfl rfl rfl ?_
          refine ps_st (S' := (49, [(4, .int 0), (0, .ref ac), (1, .ref a), (2, .int (nI p)), (3, .int (nI i))], [.int (nI p), .ref ac], M1)) rfl rfl rfl ?_
          refine ps_st (S' := (51, [(4, .int 0), (0, .ref ac), (1, .ref a), (2, .int (nI p)), (3, .int (nI i))], [.int 0, .int (nI p), .ref ac], M1)) rfl rfl rfl ?_
          have hk9 : fkN f n E (by2 f p) = 0 := by
            unfold fkN
            first | ((repeat first | rw [if_pos (by omega)] | rw [if_neg (by omega)]) <;> first | rfl | omega) | ((repeat' split) <;> first | rfl | (exfalso; omega) | omega)
          refine pl_call (a := [.ref ac, .int (nI p), .int 0]) (rest := []) rfl rfl rfl (dk_isNew (f := f) (n := n) (N := N) (q := q) (E := E) (ac := ac) (c := c) (b := b) (da := da) (vd := vd) (fr := fr) (mr := mr) (fa := fa) (ic := ic) (mj := mj) (na := na) (pa := pa) (mi := mi) (ru := ru) (wa := wa) (k1 := k1) (k2 := k2) (k3 := k3) (k4 := k4) (k5 := k5) (k6 := k6) (k7 := k7) (s := s2) (k := 0) (p := p) hl_ac hl_b hl_da hl_vd (hn) (by omega) (by omega) (by omega) (hV1)) (fun v22 M23 q24 => ?_)
          rcases q24 with q24 | q24
          · skip
            obtain ⟨e25, q51_s, rfl, h26, f27⟩ := q24
            have h29 := (f27.1 b (nin2 (ob_ne hl_b hl_ac (by decide)) (ob_ne hl_b hl_vd (by decide)))).trans hl_b
            have h30 := (f27.1 da (nin2 (Ne.symm (ob_ar hl_ac hl_da)) (Ne.symm (ob_ar hl_vd hl_da)))).trans hl_da
            have h31 := (f27.1 c (nin2 (ob_ne hl_c hl_ac (by decide)) (ob_ne hl_c hl_vd (by decide)))).trans hl_c
            have h32 := (f27.1 a (nin2 (ob_ne hl_a hl_ac (by decide)) (ob_ne hl_a hl_vd (by decide)))).trans hl_a
            have hF33 := hF1.tr f27 (by simp)
            have hV34 := hV1.keep f27.gm (n7c hl_ac (by decide) (n7c hl_vd (by decide) (n7nil)))
            show pl _ _ _ (54, [(4, .int 0), (0, .ref ac), (1, .ref a), (2, .int (nI p)), (3, .int (nI i))], [.int 0], M23) _
            refine ps_if (S1 := (59, [(4, .int 0), (0, .ref ac), (1, .ref a), (2, .int (nI p)), (3, .int (nI i))], [], M23)) (S2 := (57, [(4, .int 0), (0, .ref ac), (1, .ref a), (2, .int (nI p)), (3, .int (nI i))], [], M23)) rfl rfl rfl (fun c_54 => ?_) (fun c_54 => ?_)
            · exact absurd (of_decide_eq_true c_54) (by decide)
            refine ps_st (S' := (58, [(4, .int 0), (0, .ref ac), (1, .ref a), (2, .int (nI p)), (3, .int (nI i))], [.int 0], M23)) rfl rfl rfl ?_
            exact ps_ret rfl rfl (Or.inr ⟨e25, by
                rw [← hs9, faS_st (i := i) (by omega), hk9, q51_s], rfl, h26, hF33⟩)
          · skip
            obtain ⟨s'35, q51_s, q51_l, rfl, h36, h37, f38⟩ := q24
            have h40 := (f38.1 b (nin2 (ob_ne hl_b hl_ac (by decide)) (ob_ne hl_b hl_vd (by decide)))).trans hl_b
            have h41 := (f38.1 da (nin2 (Ne.symm (ob_ar hl_ac hl_da)) (Ne.symm (ob_ar hl_vd hl_da)))).trans hl_da
            have h42 := (f38.1 c (nin2 (ob_ne hl_c hl_ac (by decide)) (ob_ne hl_c hl_vd (by decide)))).trans hl_c
            have h43 := (f38.1 a (nin2 (ob_ne hl_a hl_ac (by decide)) (ob_ne hl_a hl_vd (by decide)))).trans hl_a
            have hF44 := hF1.tr f38 (by simp)
            have hV45 := hV1.keep f38.gm (n7c hl_ac (by decide) (n7c hl_vd (by decide) (n7nil)))
            show pl _ _ _ (54, [(4, .int 0), (0, .ref ac), (1, .ref a), (2, .int (nI p)), (3, .int (nI i))], [.int 1], M23) _
            refine ps_if (S1 := (59, [(4, .int 0), (0, .ref ac), (1, .ref a), (2, .int (nI p)), (3, .int (nI i))], [], M23)) (S2 := (57, [(4, .int 0), (0, .ref ac), (1, .ref a), (2, .int (nI p)), (3, .int (nI i))], [], M23)) rfl rfl rfl (fun c_54 => ?_) (fun c_54 => ?_)
            rotate_left
            · exact absurd (by decide) (of_decide_eq_false c_54)
            refine ps_st (S' := (61, [(4, .int 0), (0, .ref ac), (1, .ref a), (2, .int (nI p)), (3, .int (nI i))], [.int 0], M23)) rfl rfl rfl ?_
            refine ps_if (S1 := (98, [(0, .ref ac), (1, .ref a), (2, .int (nI p)), (3, .int (nI i)), (4, .int 0)], [], M23)) (S2 := (64, [(4, .int 0), (0, .ref ac), (1, .ref a), (2, .int (nI p)), (3, .int (nI i))], [], M23)) rfl rfl rfl (fun c_61 => ?_) (fun c_61 => ?_)
            rotate_left
            · exact absurd (by decide) (of_decide_eq_false c_61)
            refine ps_st (S' := (100, [(0, .ref ac), (1, .ref a), (2, .int (nI p)), (3, .int (nI i)), (4, .int 0)], [.int 0], M23)) rfl rfl rfl ?_
            refine ps_st (S' := (101, [(0, .ref ac), (1, .ref a), (2, .int (nI p)), (3, .int (nI i)), (4, .int 0)], [.int 1, .int 0], M23)) rfl rfl rfl ?_
            refine ps_if2 (S1 := (161, [(0, .ref ac), (1, .ref a), (2, .int (nI p)), (3, .int (nI i))], [], M23)) (S2 := (104, [(0, .ref ac), (1, .ref a), (2, .int (nI p)), (3, .int (nI i)), (4, .int 0)], [], M23)) rfl rfl rfl (fun c_101 => ?_) (fun c_101 => ?_)
            rotate_left
            · exact absurd (by decide) (of_decide_eq_false c_101)
            refine ps_st (S' := (162, [(0, .ref ac), (1, .ref a), (2, .int (nI p)), (3, .int (nI i))], [.ref ac], M23)) rfl rfl rfl ?_
            refine ps_st (S' := (163, [(0, .ref ac), (1, .ref a), (2, .int (nI p)), (3, .int (nI i))], [.int (nI p), .ref ac], M23)) rfl rfl rfl ?_
            refine pl_call (a := [.ref ac, .int (nI p)]) (rest := []) rfl rfl rfl (dk_behind (f := f) (n := n) (q := q) (ac := ac) (c := c) (b := b) (da := da) (vd := vd) (s1 := (nI s'35)) (p := p) h36 h40 h41 (hn) (by omega)) (fun v46 M47 q48 => ?_)
            obtain ⟨rfl, rfl⟩ := q48
            show pl _ _ _ (166, [(0, .ref ac), (1, .ref a), (2, .int (nI p)), (3, .int (nI i))], [.int (nI (p + 6 + by4 f (p + 2)))], M23) _
            refine ps_st (S' := (167, [(2, .int (nI (p + 6 + by4 f (p + 2)))), (0, .ref ac), (1, .ref a), (3, .int (nI i))], [], M23)) rfl rfl rfl ?_
            refine ps_st (S' := (170, [(3, .int ((nI i) + 1)), (2, .int (nI (p + 6 + by4 f (p + 2)))), (0, .ref ac), (1, .ref a)], [], M23)) rfl rfl rfl ?_
            rw [nI_add1 (p := i) (k := 1) (x := 1) rfl (by omega)]
            show pl _ _ _ (_, [(3, .int (nI (i + 1))), (2, .int (nI (p + 6 + by4 f (p + 2)))), (0, .ref ac), (1, .ref a)], [], M23) _
            refine ps_st (S' := (12, [(0, .ref ac), (1, .ref a), (2, .int (nI (p + 6 + by4 f (p + 2)))), (3, .int (nI (i + 1)))], [], M23)) rfl rfl rfl ?_
            exact ih (i + 1) (p + 6 + by4 f (p + 2)) ((s'35)) (kn2) (co2) M23 h36 h40 h41 h42 h37 h43 hV45 hF44 (by omega) (q51_l) (hq7) (by
                rw [← hs9, faS_st (i := i) (by omega), hk9, q51_s]
                dsimp only
                rw [if_neg (fun h => h.1 rfl), if_neg (fun h => h.1 rfl)])
        · have c_37 : ¬ ((nI (eqN (tX f n E (by2 f p)) (ltx 0))) = 0) := of_decide_eq_false c_37
          have n_37 : ¬ (eqN (tX f n E (by2 f p)) (ltx 0) = 0) := fun h9 => c_37 ((eq_nI (p := eqN (tX f n E (by2 f p)) (ltx 0)) (n := 0) (Nat.lt_trans (le1_eq _ _) (by decide)) (by decide)).mpr h9)
          refine ps_st (S' := (41, [(0, .ref ac), (1, .ref a), (2, .int (nI p)), (3, .int (nI i))], [.int 1], M1)) rfl rfl rfl ?_
          refine ps_st (S' := (45, [(0, .ref ac), (1, .ref a), (2, .int (nI p)), (3, .int (nI i))], [.int 1], M1)) rfl rfl rfl ?_
          refine ps_st (S' := (47, [(4, .int 1), (0, .ref ac), (1, .ref a), (2, .int (nI p)), (3, .int (nI i))], [], M1)) rfl rfl rfl ?_
          refine ps_st (S' := (48, [(4, .int 1), (0, .ref ac), (1, .ref a), (2, .int (nI p)), (3, .int (nI i))], [.ref ac], M1)) rfl rfl rfl ?_
          refine ps_st (S' := (49, [(4, .int 1), (0, .ref ac), (1, .ref a), (2, .int (nI p)), (3, .int (nI i))], [.int (nI p), .ref ac], M1)) rfl rfl rfl ?_
          refine ps_st (S' := (51, [(4, .int 1), (0, .ref ac), (1, .ref a), (2, .int (nI p)), (3, .int (nI i))], [.int 1, .int (nI p), .ref ac], M1)) rfl rfl rfl ?_
          have hk9 : fkN f n E (by2 f p) = 1 := by
            unfold fkN
            first | ((repeat first | rw [if_pos (by omega)] | rw [if_neg (by omega)]) <;> first | rfl | omega) | ((repeat' split) <;> first | rfl | (exfalso; omega) | omega)
          refine pl_call (a := [.ref ac, .int (nI p), .int 1]) (rest := []) rfl rfl rfl (dk_isNew (f := f) (n := n) (N := N) (q := q) (E := E) (ac := ac) (c := c) (b := b) (da := da) (vd := vd) (fr := fr) (mr := mr) (fa := fa) (ic := ic) (mj := mj) (na := na) (pa := pa) (mi := mi) (ru := ru) (wa := wa) (k1 := k1) (k2 := k2) (k3 := k3) (k4 := k4) (k5 := k5) (k6 := k6) (k7 := k7) (s := s2) (k := 1) (p := p) hl_ac hl_b hl_da hl_vd (hn) (by omega) (by omega) (by omega) (hV1)) (fun v49 M50 q51 => ?_)
          rcases q51 with q51 | q51
          · skip
            obtain ⟨e52, q51_s, rfl, h53, f54⟩ := q51
            have h56 := (f54.1 b (nin2 (ob_ne hl_b hl_ac (by decide)) (ob_ne hl_b hl_vd (by decide)))).trans hl_b
            have h57 := (f54.1 da (nin2 (Ne.symm (ob_ar hl_ac hl_da)) (Ne.symm (ob_ar hl_vd hl_da)))).trans hl_da
            have h58 := (f54.1 c (nin2 (ob_ne hl_c hl_ac (by decide)) (ob_ne hl_c hl_vd (by decide)))).trans hl_c
            have h59 := (f54.1 a (nin2 (ob_ne hl_a hl_ac (by decide)) (ob_ne hl_a hl_vd (by decide)))).trans hl_a
            have hF60 := hF1.tr f54 (by simp)
            have hV61 := hV1.keep f54.gm (n7c hl_ac (by decide) (n7c hl_vd (by decide) (n7nil)))
            show pl _ _ _ (54, [(4, .int 1), (0, .ref ac), (1, .ref a), (2, .int (nI p)), (3, .int (nI i))], [.int 0], M50) _
            refine ps_if (S1 := (59, [(4, .int 1), (0, .ref ac), (1, .ref a), (2, .int (nI p)), (3, .int (nI i))], [], M50)) (S2 := (57, [(4, .int 1), (0, .ref ac), (1, .ref a), (2, .int (nI p)), (3, .int (nI i))], [], M50)) rfl rfl rfl (fun c_54 => ?_) (fun c_54 => ?_)
            · exact absurd (of_decide_eq_true c_54) (by decide)
            refine ps_st (S' := (58, [(4, .int 1), (0, .ref ac), (1, .ref a), (2, .int (nI p)), (3, .int (nI i))], [.int 0], M50)) rfl rfl rfl ?_
            exact ps_ret rfl rfl (Or.inr ⟨e52, by
                rw [← hs9, faS_st (i := i) (by omega), hk9, q51_s], rfl, h53, hF60⟩)
          · skip
            obtain ⟨s'62, q51_s, q51_l, rfl, h63, h64, f65⟩ := q51
            have h67 := (f65.1 b (nin2 (ob_ne hl_b hl_ac (by decide)) (ob_ne hl_b hl_vd (by decide)))).trans hl_b
            have h68 := (f65.1 da (nin2 (Ne.symm (ob_ar hl_ac hl_da)) (Ne.symm (ob_ar hl_vd hl_da)))).trans hl_da
            have h69 := (f65.1 c (nin2 (ob_ne hl_c hl_ac (by decide)) (ob_ne hl_c hl_vd (by decide)))).trans hl_c
            have h70 := (f65.1 a (nin2 (ob_ne hl_a hl_ac (by decide)) (ob_ne hl_a hl_vd (by decide)))).trans hl_a
            have hF71 := hF1.tr f65 (by simp)
            have hV72 := hV1.keep f65.gm (n7c hl_ac (by decide) (n7c hl_vd (by decide) (n7nil)))
            show pl _ _ _ (54, [(4, .int 1), (0, .ref ac), (1, .ref a), (2, .int (nI p)), (3, .int (nI i))], [.int 1], M50) _
            refine ps_if (S1 := (59, [(4, .int 1), (0, .ref ac), (1, .ref a), (2, .int (nI p)), (3, .int (nI i))], [], M50)) (S2 := (57, [(4, .int 1), (0, .ref ac), (1, .ref a), (2, .int (nI p)), (3, .int (nI i))], [], M50)) rfl rfl rfl (fun c_54 => ?_) (fun c_54 => ?_)
            rotate_left
            · exact absurd (by decide) (of_decide_eq_false c_54)
            refine ps_st (S' := (61, [(4, .int 1), (0, .ref ac), (1, .ref a), (2, .int (nI p)), (3, .int (nI i))], [.int 1], M50)) rfl rfl rfl ?_
            refine ps_if (S1 := (98, [(0, .ref ac), (1, .ref a), (2, .int (nI p)), (3, .int (nI i)), (4, .int 1)], [], M50)) (S2 := (64, [(4, .int 1), (0, .ref ac), (1, .ref a), (2, .int (nI p)), (3, .int (nI i))], [], M50)) rfl rfl rfl (fun c_61 => ?_) (fun c_61 => ?_)
            · exact absurd (of_decide_eq_true c_61) (by decide)
            refine ps_st (S' := (65, [(4, .int 1), (0, .ref ac), (1, .ref a), (2, .int (nI p)), (3, .int (nI i))], [.ref ac], M50)) rfl rfl rfl ?_
            refine ps_st (S' := (67, [(4, .int 1), (0, .ref ac), (1, .ref a), (2, .int (nI p)), (3, .int (nI i))], [.int 1, .ref ac], M50)) rfl rfl rfl ?_
            refine ps_st (S' := (68, [(4, .int 1), (0, .ref ac), (1, .ref a), (2, .int (nI p)), (3, .int (nI i))], [.int (nI p), .int 1, .ref ac], M50)) rfl rfl rfl ?_
            refine ps_st (S' := (70, [(4, .int 1), (0, .ref ac), (1, .ref a), (2, .int (nI p)), (3, .int (nI i))], [.int 6, .int (nI p), .int 1, .ref ac], M50)) rfl rfl rfl ?_
            refine ps_st (S' := (71, [(4, .int 1), (0, .ref ac), (1, .ref a), (2, .int (nI p)), (3, .int (nI i))], [.int ((nI p) + 6), .int 1, .ref ac], M50)) rfl rfl rfl ?_
            rw [nI_add1 (p := p) (k := 6) (x := 6) rfl (by omega)]
            show pl _ _ _ (_, [(4, .int 1), (0, .ref ac), (1, .ref a), (2, .int (nI p)), (3, .int (nI i))], [.int (nI (p + 6)), .int 1, .ref ac], M50) _
            refine ps_st (S' := (72, [(4, .int 1), (0, .ref ac), (1, .ref a), (2, .int (nI p)), (3, .int (nI i))], [.ref ac, .int (nI (p + 6)), .int 1, .ref ac], M50)) rfl rfl rfl ?_
            refine ps_st (S' := (73, [(4, .int 1), (0, .ref ac), (1, .ref a), (2, .int (nI p)), (3, .int (nI i))], [.int (nI p), .ref ac, .int (nI (p + 6)), .int 1, .ref ac], M50)) rfl rfl rfl ?_
            refine pl_call (a := [.ref ac, .int (nI p)]) (rest := [.int (nI (p + 6)), .int 1, .ref ac]) rfl rfl rfl (dk_behind (f := f) (n := n) (q := q) (ac := ac) (c := c) (b := b) (da := da) (vd := vd) (s1 := (nI s'62)) (p := p) h63 h67 h68 (hn) (by omega)) (fun v73 M74 q75 => ?_)
            obtain ⟨rfl, rfl⟩ := q75
            show pl _ _ _ (76, [(4, .int 1), (0, .ref ac), (1, .ref a), (2, .int (nI p)), (3, .int (nI i))], [.int (nI (p + 6 + by4 f (p + 2))), .int (nI (p + 6)), .int 1, .ref ac], M50) _
            refine pl_call (a := [.ref ac, .int 1, .int (nI (p + 6)), .int (nI (p + 6 + by4 f (p + 2)))]) (rest := []) rfl rfl rfl (dk_formEnd (f := f) (n := n) (q := q) (ac := ac) (c := c) (b := b) (da := da) (vd := vd) (s1 := (nI s'62)) (k := 1) (p0 := (p + 6)) (e := (p + 6 + by4 f (p + 2))) h63 h67 h68 (hn) (by omega) (by omega)) (fun v76 M77 q78 => ?_)
            rcases q78 with q78 | q78
            · skip
              obtain ⟨q76_s, rfl, rfl⟩ := q78
              show pl _ _ _ (79, [(4, .int 1), (0, .ref ac), (1, .ref a), (2, .int (nI p)), (3, .int (nI i))], [.int (-1)], M50) _
              refine ps_st (S' := (80, [(4, .int 1), (0, .ref ac), (1, .ref a), (2, .int (nI p)), (3, .int (nI i))], [.ref ac, .int (-1)], M50)) rfl rfl rfl ?_
              refine ps_st (S' := (81, [(4, .int 1), (0, .ref ac), (1, .ref a), (2, .int (nI p)), (3, .int (nI i))], [.int (nI p), .ref ac, .int (-1)], M50)) rfl rfl rfl ?_
              refine pl_call (a := [.ref ac, .int (nI p)]) (rest := [.int (-1)]) rfl rfl rfl (dk_behind (f := f) (n := n) (q := q) (ac := ac) (c := c) (b := b) (da := da) (vd := vd) (s1 := (nI s'62)) (p := p) h63 h67 h68 (hn) (by omega)) (fun v79 M80 q81 => ?_)
              obtain ⟨rfl, rfl⟩ := q81
              show pl _ _ _ (84, [(4, .int 1), (0, .ref ac), (1, .ref a), (2, .int (nI p)), (3, .int (nI i))], [.int (nI (p + 6 + by4 f (p + 2))), .int (-1)], M50) _
              refine ps_if2 (S1 := (98, [(0, .ref ac), (1, .ref a), (2, .int (nI p)), (3, .int (nI i)), (4, .int 1)], [], M50)) (S2 := (87, [(4, .int 1), (0, .ref ac), (1, .ref a), (2, .int (nI p)), (3, .int (nI i))], [], M50)) rfl rfl rfl (fun c_84 => ?_) (fun c_84 => ?_)
              · exact absurd (of_decide_eq_true c_84) (m1_ne (by omega))
              have hfe : ¬ s_fe f 1 (p + 6) (p + 6 + by4 f (p + 2)) = some (p + 6 + by4 f (p + 2)) := by rw [q76_s]; exact fun h => by cases h
              refine ps_st (S' := (88, [(4, .int 1), (0, .ref ac), (1, .ref a), (2, .int (nI p)), (3, .int (nI i))], [.ref ac], M50)) rfl rfl rfl ?_
              refine ps_get (S' := (91, [(4, .int 1), (0, .ref ac), (1, .ref a), (2, .int (nI p)), (3, .int (nI i))], [.ref vd], M50)) rfl h63 rfl rfl ?_
              refine ps_st (S' := (93, [(4, .int 1), (0, .ref ac), (1, .ref a), (2, .int (nI p)), (3, .int (nI i))], [.int 30, .ref vd], M50)) rfl rfl rfl ?_
              refine ps_st (S' := (94, [(4, .int 1), (0, .ref ac), (1, .ref a), (2, .int (nI p)), (3, .int (nI i))], [.int (nI p), .int 30, .ref vd], M50)) rfl rfl rfl ?_
              refine pl_call (a := [.ref vd, .int 30, .int (nI p)]) (rest := []) rfl rfl rfl (dk_wrong (vd := vd) (ru := ru) (wa := wa) (x1 := 30) (x2 := (nI p)) h64) (fun v82 M83 q84 => ?_)
              obtain ⟨rfl, h85, f86⟩ := q84
              have h88 := (f86.1 ac (nin1 (ob_ne h63 h64 (by decide)))).trans h63
              have h89 := (f86.1 b (nin1 (ob_ne h67 h64 (by decide)))).trans h67
              have h90 := (f86.1 da (nin1 (Ne.symm (ob_ar h64 h68)))).trans h68
              have h91 := (f86.1 c (nin1 (ob_ne h69 h64 (by decide)))).trans h69
              have h92 := (f86.1 a (nin1 (ob_ne h70 h64 (by decide)))).trans h70
              have hF93 := hF71.tr f86 (by simp)
              have hV94 := hV72.keep f86.gm (n7c h64 (by decide) (n7nil))
              show pl _ _ _ (97, [(4, .int 1), (0, .ref ac), (1, .ref a), (2, .int (nI p)), (3, .int (nI i))], [.int 0], M83) _
              exact ps_ret rfl rfl (Or.inr ⟨(30, p), by
                  rw [← hs9, faS_st (i := i) (by omega), hk9, q51_s]
                  dsimp only
                  rw [if_pos ⟨by decide, hfe⟩], rfl, h85, hF93⟩)
            · skip
              obtain ⟨x95, q76_s, q76_l, rfl, rfl⟩ := q78
              show pl _ _ _ (79, [(4, .int 1), (0, .ref ac), (1, .ref a), (2, .int (nI p)), (3, .int (nI i))], [.int (nI x95)], M50) _
              refine ps_st (S' := (80, [(4, .int 1), (0, .ref ac), (1, .ref a), (2, .int (nI p)), (3, .int (nI i))], [.ref ac, .int (nI x95)], M50)) rfl rfl rfl ?_
              refine ps_st (S' := (81, [(4, .int 1), (0, .ref ac), (1, .ref a), (2, .int (nI p)), (3, .int (nI i))], [.int (nI p), .ref ac, .int (nI x95)], M50)) rfl rfl rfl ?_
              refine pl_call (a := [.ref ac, .int (nI p)]) (rest := [.int (nI x95)]) rfl rfl rfl (dk_behind (f := f) (n := n) (q := q) (ac := ac) (c := c) (b := b) (da := da) (vd := vd) (s1 := (nI s'62)) (p := p) h63 h67 h68 (hn) (by omega)) (fun v96 M97 q98 => ?_)
              obtain ⟨rfl, rfl⟩ := q98
              show pl _ _ _ (84, [(4, .int 1), (0, .ref ac), (1, .ref a), (2, .int (nI p)), (3, .int (nI i))], [.int (nI (p + 6 + by4 f (p + 2))), .int (nI x95)], M50) _
              refine ps_if2 (S1 := (98, [(0, .ref ac), (1, .ref a), (2, .int (nI p)), (3, .int (nI i)), (4, .int 1)], [], M50)) (S2 := (87, [(4, .int 1), (0, .ref ac), (1, .ref a), (2, .int (nI p)), (3, .int (nI i))], [], M50)) rfl rfl rfl (fun c_84 => ?_) (fun c_84 => ?_)
              · have c_84 : (nI x95) = (nI (p + 6 + by4 f (p + 2))) := of_decide_eq_true c_84
                have n_84 : x95 = p + 6 + by4 f (p + 2) := (eq_nI (p := x95) (n := p + 6 + by4 f (p + 2)) (by omega) (by omega)).mp c_84
                have hfe : s_fe f 1 (p + 6) (p + 6 + by4 f (p + 2)) = some (p + 6 + by4 f (p + 2)) := by rw [q76_s, n_84]
                have hb8 := (s_fe_in hfe).1
                refine ps_st (S' := (100, [(0, .ref ac), (1, .ref a), (2, .int (nI p)), (3, .int (nI i)), (4, .int 1)], [.int 1], M50)) rfl rfl rfl ?_
                refine ps_st (S' := (101, [(0, .ref ac), (1, .ref a), (2, .int (nI p)), (3, .int (nI i)), (4, .int 1)], [.int 1, .int 1], M50)) rfl rfl rfl ?_
                refine ps_if2 (S1 := (161, [(0, .ref ac), (1, .ref a), (2, .int (nI p)), (3, .int (nI i))], [], M50)) (S2 := (104, [(0, .ref ac), (1, .ref a), (2, .int (nI p)), (3, .int (nI i)), (4, .int 1)], [], M50)) rfl rfl rfl (fun c_101 => ?_) (fun c_101 => ?_)
                · exact absurd (of_decide_eq_true c_101) (by decide)
                refine ps_st (S' := (105, [(0, .ref ac), (1, .ref a), (2, .int (nI p)), (3, .int (nI i)), (4, .int 1)], [.ref a], M50)) rfl rfl rfl ?_
                refine ps_st (S' := (107, [(0, .ref ac), (1, .ref a), (2, .int (nI p)), (3, .int (nI i)), (4, .int 1)], [.int 8, .ref a], M50)) rfl rfl rfl ?_
                refine pl_call (a := [.ref a, .int 8]) (rest := []) rfl rfl rfl (dk_mhas (f := f) (a := a) (b0 := b0) (kn := kn2) (co := co2) (ap := ap) (ex := ex) (cd := cd) (x := 8) h70) (fun v99 M100 q101 => ?_)
                obtain ⟨rfl, rfl⟩ := q101
                show pl _ _ _ (110, [(0, .ref ac), (1, .ref a), (2, .int (nI p)), (3, .int (nI i)), (4, .int 1)], [.int (nI (hasN (by2 f b0) 8))], M50) _
                refine ps_if (S1 := (161, [(0, .ref ac), (1, .ref a), (2, .int (nI p)), (3, .int (nI i))], [], M50)) (S2 := (113, [(0, .ref ac), (1, .ref a), (2, .int (nI p)), (3, .int (nI i)), (4, .int 1)], [], M50)) rfl rfl rfl (fun c_110 => ?_) (fun c_110 => ?_)
                · have c_110 : (nI (hasN (by2 f b0) 8)) = 0 := of_decide_eq_true c_110
                  have n_110 : hasN (by2 f b0) 8 = 0 := (eq_nI (p := hasN (by2 f b0) 8) (n := 0) (Nat.lt_trans (le1_has _ _) (by decide)) (by decide)).mp c_110
                  refine ps_st (S' := (162, [(0, .ref ac), (1, .ref a), (2, .int (nI p)), (3, .int (nI i))], [.ref ac], M50)) rfl rfl rfl ?_
                  refine ps_st (S' := (163, [(0, .ref ac), (1, .ref a), (2, .int (nI p)), (3, .int (nI i))], [.int (nI p), .ref ac], M50)) rfl rfl rfl ?_
                  refine pl_call (a := [.ref ac, .int (nI p)]) (rest := []) rfl rfl rfl (dk_behind (f := f) (n := n) (q := q) (ac := ac) (c := c) (b := b) (da := da) (vd := vd) (s1 := (nI s'62)) (p := p) h63 h67 h68 (hn) (by omega)) (fun v102 M103 q104 => ?_)
                  obtain ⟨rfl, rfl⟩ := q104
                  show pl _ _ _ (166, [(0, .ref ac), (1, .ref a), (2, .int (nI p)), (3, .int (nI i))], [.int (nI (p + 6 + by4 f (p + 2)))], M50) _
                  refine ps_st (S' := (167, [(2, .int (nI (p + 6 + by4 f (p + 2)))), (0, .ref ac), (1, .ref a), (3, .int (nI i))], [], M50)) rfl rfl rfl ?_
                  refine ps_st (S' := (170, [(3, .int ((nI i) + 1)), (2, .int (nI (p + 6 + by4 f (p + 2)))), (0, .ref ac), (1, .ref a)], [], M50)) rfl rfl rfl ?_
                  rw [nI_add1 (p := i) (k := 1) (x := 1) rfl (by omega)]
                  show pl _ _ _ (_, [(3, .int (nI (i + 1))), (2, .int (nI (p + 6 + by4 f (p + 2)))), (0, .ref ac), (1, .ref a)], [], M50) _
                  refine ps_st (S' := (12, [(0, .ref ac), (1, .ref a), (2, .int (nI (p + 6 + by4 f (p + 2)))), (3, .int (nI (i + 1)))], [], M50)) rfl rfl rfl ?_
                  exact ih (i + 1) (p + 6 + by4 f (p + 2)) ((s'62)) (kn2) (co2) M50 h63 h67 h68 h69 h64 h70 hV72 hF71 (by omega) (q51_l) (hq7) (by
                      rw [← hs9, faS_st (i := i) (by omega), hk9, q51_s]
                      dsimp only
                      rw [if_neg (fun h => h.2 hfe)]
                      rw [if_neg (fun h => h.2.1 n_110)])
                · have c_110 : ¬ ((nI (hasN (by2 f b0) 8)) = 0) := of_decide_eq_false c_110
                  have n_110 : ¬ (hasN (by2 f b0) 8 = 0) := fun h9 => c_110 ((eq_nI (p := hasN (by2 f b0) 8) (n := 0) (Nat.lt_trans (le1_has _ _) (by decide)) (by decide)).mpr h9)
                  refine ps_st (S' := (114, [(0, .ref ac), (1, .ref a), (2, .int (nI p)), (3, .int (nI i)), (4, .int 1)], [.ref a], M50)) rfl rfl rfl ?_
                  refine ps_st (S' := (115, [(0, .ref ac), (1, .ref a), (2, .int (nI p)), (3, .int (nI i)), (4, .int 1)], [.ref ac, .ref a], M50)) rfl rfl rfl ?_
                  refine ps_get (S' := (118, [(0, .ref ac), (1, .ref a), (2, .int (nI p)), (3, .int (nI i)), (4, .int 1)], [.ref b, .ref a], M50)) rfl h63 rfl rfl ?_
                  refine ps_st (S' := (119, [(0, .ref ac), (1, .ref a), (2, .int (nI p)), (3, .int (nI i)), (4, .int 1)], [.int (nI p), .ref b, .ref a], M50)) rfl rfl rfl ?_
                  refine ps_st (S' := (121, [(0, .ref ac), (1, .ref a), (2, .int (nI p)), (3, .int (nI i)), (4, .int 1)], [.int 6, .int (nI p), .ref b, .ref a], M50)) rfl rfl rfl ?_
                  refine ps_st (S' := (122, [(0, .ref ac), (1, .ref a), (2, .int (nI p)), (3, .int (nI i)), (4, .int 1)], [.int ((nI p) + 6), .ref b, .ref a], M50)) rfl rfl rfl ?_
                  rw [nI_add1 (p := p) (k := 6) (x := 6) rfl (by omega)]
                  show pl _ _ _ (_, [(0, .ref ac), (1, .ref a), (2, .int (nI p)), (3, .int (nI i)), (4, .int 1)], [.int (nI (p + 6)), .ref b, .ref a], M50) _
                  refine pl_call (a := [.ref b, .int (nI (p + 6))]) (rest := [.ref a]) rfl rfl rfl (dk_u2 (f := f) (n := n) (b := b) (da := da) (p := (p + 6)) h67 h68 (hn) (by omega)) (fun v105 M106 q107 => ?_)
                  obtain ⟨rfl, rfl⟩ := q107
                  show pl _ _ _ (125, [(0, .ref ac), (1, .ref a), (2, .int (nI p)), (3, .int (nI i)), (4, .int 1)], [.int (nI (by2 f (p + 6))), .ref a], M50) _
                  have hu_122 := by2_lt f (p + 6)
                  refine ps_put (l' := [.int (nI b0), .int (nI (by2 f b0)), .int (nI (by2 f (b0 + 2))), .int (nI (by2 f (b0 + 4))), .int (nI (by2 f (b0 + 6))), .int (nI (b0 + 8)), .int kn2, .int (nI (by2 f (p + 6))), .int ap, .int ex, cd]) rfl h70 rfl rfl (fun M108 h109 f110 z111 => ?_)
                  have h112 := (f110 ac (ob_ne h63 h70 (by decide))).trans h63
                  have h113 := (f110 b (ob_ne h67 h70 (by decide))).trans h67
                  have h114 := (f110 da (Ne.symm (ob_ar h70 h68))).trans h68
                  have h115 := (f110 c (ob_ne h69 h70 (by decide))).trans h69
                  have h116 := (f110 vd (ob_ne h64 h70 (by decide))).trans h64
                  have hV117 := hV72.put h70 (by decide) f110 z111
                  have hF118 := hF71.up (by simp) f110 z111
                  show pl _ _ _ (128, [(0, .ref ac), (1, .ref a), (2, .int (nI p)), (3, .int (nI i)), (4, .int 1)], [], M108) _
                  refine ps_st (S' := (129, [(0, .ref ac), (1, .ref a), (2, .int (nI p)), (3, .int (nI i)), (4, .int 1)], [.ref ac], M108)) rfl rfl rfl ?_
                  refine ps_get (S' := (132, [(0, .ref ac), (1, .ref a), (2, .int (nI p)), (3, .int (nI i)), (4, .int 1)], [.ref q], M108)) rfl h112 rfl rfl ?_
                  refine ps_st (S' := (133, [(0, .ref ac), (1, .ref a), (2, .int (nI p)), (3, .int (nI i)), (4, .int 1)], [.ref a, .ref q], M108)) rfl rfl rfl ?_
                  refine ps_get (S' := (136, [(0, .ref ac), (1, .ref a), (2, .int (nI p)), (3, .int (nI i)), (4, .int 1)], [.int (nI (by2 f (p + 6))), .ref q], M108)) rfl h109 rfl rfl ?_
                  refine pl_call (a := [.ref q, .int (nI (by2 f (p + 6)))]) (rest := []) rfl rfl rfl (dy_tagOf (f := f) (n := n) (N := N) (q := q) (E := E) (j := (by2 f (p + 6))) (hV117) (by2_lt _ _)) (fun v119 M120 q121 => ?_)
                  obtain ⟨rfl, rfl⟩ := q121
                  show pl _ _ _ (139, [(0, .ref ac), (1, .ref a), (2, .int (nI p)), (3, .int (nI i)), (4, .int 1)], [.int (nI (tg f E (by2 f (p + 6))))], M108) _
                  refine ps_st (S' := (140, [(0, .ref ac), (1, .ref a), (2, .int (nI p)), (3, .int (nI i)), (4, .int 1)], [.ref ac, .int (nI (tg f E (by2 f (p + 6))))], M108)) rfl rfl rfl ?_
                  refine ps_st (S' := (141, [(0, .ref ac), (1, .ref a), (2, .int (nI p)), (3, .int (nI i)), (4, .int 1)], [.ref a, .ref ac, .int (nI (tg f E (by2 f (p + 6))))], M108)) rfl rfl rfl ?_
                  refine ps_get (S' := (144, [(0, .ref ac), (1, .ref a), (2, .int (nI p)), (3, .int (nI i)), (4, .int 1)], [.int (nI (by2 f (b0 + 4))), .ref ac, .int (nI (tg f E (by2 f (p + 6))))], M108)) rfl h109 rfl rfl ?_
                  refine pl_call (a := [.ref ac, .int (nI (by2 f (b0 + 4)))]) (rest := [.int (nI (tg f E (by2 f (p + 6))))]) rfl rfl rfl (dk_constantTag (f := f) (n := n) (N := N) (q := q) (E := E) (ac := ac) (c := c) (b := b) (da := da) (vd := vd) (fr := fr) (mr := mr) (fa := fa) (ic := ic) (mj := mj) (na := na) (pa := pa) (mi := mi) (ru := ru) (wa := wa) (s1 := (nI s'62)) (k1 := k1) (k2 := k2) (k3 := k3) (k4 := k4) (k5 := k5) (k6 := k6) (k7 := k7) (d := (by2 f (b0 + 4))) h112 h113 h114 (hn) (by2_lt _ _) (hV117)) (fun v122 M123 q124 => ?_)
                  rcases q124 with q124 | q124
                  · skip
                    obtain ⟨q144_s, rfl, rfl⟩ := q124
                    show pl _ _ _ (147, [(0, .ref ac), (1, .ref a), (2, .int (nI p)), (3, .int (nI i)), (4, .int 1)], [.int (-1), .int (nI (tg f E (by2 f (p + 6))))], M108) _
                    refine ps_if2 (S1 := (161, [(0, .ref ac), (1, .ref a), (2, .int (nI p)), (3, .int (nI i))], [], M108)) (S2 := (150, [(0, .ref ac), (1, .ref a), (2, .int (nI p)), (3, .int (nI i)), (4, .int 1)], [], M108)) rfl rfl rfl (fun c_147 => ?_) (fun c_147 => ?_)
                    · exact absurd (of_decide_eq_true c_147) (fun h9 => m1_ne (Nat.lt_trans (tg_lt _ _ _) (by decide)) h9.symm)
                    refine ps_st (S' := (151, [(0, .ref ac), (1, .ref a), (2, .int (nI p)), (3, .int (nI i)), (4, .int 1)], [.ref ac], M108)) rfl rfl rfl ?_
                    refine ps_get (S' := (154, [(0, .ref ac), (1, .ref a), (2, .int (nI p)), (3, .int (nI i)), (4, .int 1)], [.ref vd], M108)) rfl h112 rfl rfl ?_
                    refine ps_st (S' := (156, [(0, .ref ac), (1, .ref a), (2, .int (nI p)), (3, .int (nI i)), (4, .int 1)], [.int 31, .ref vd], M108)) rfl rfl rfl ?_
                    refine ps_st (S' := (157, [(0, .ref ac), (1, .ref a), (2, .int (nI p)), (3, .int (nI i)), (4, .int 1)], [.int (nI p), .int 31, .ref vd], M108)) rfl rfl rfl ?_
                    refine pl_call (a := [.ref vd, .int 31, .int (nI p)]) (rest := []) rfl rfl rfl (dk_wrong (vd := vd) (ru := ru) (wa := wa) (x1 := 31) (x2 := (nI p)) h116) (fun v125 M126 q127 => ?_)
                    obtain ⟨rfl, h128, f129⟩ := q127
                    have h131 := (f129.1 ac (nin1 (ob_ne h112 h116 (by decide)))).trans h112
                    have h132 := (f129.1 b (nin1 (ob_ne h113 h116 (by decide)))).trans h113
                    have h133 := (f129.1 da (nin1 (Ne.symm (ob_ar h116 h114)))).trans h114
                    have h134 := (f129.1 c (nin1 (ob_ne h115 h116 (by decide)))).trans h115
                    have h135 := (f129.1 a (nin1 (ob_ne h109 h116 (by decide)))).trans h109
                    have hF136 := hF118.tr f129 (by simp)
                    have hV137 := hV117.keep f129.gm (n7c h116 (by decide) (n7nil))
                    show pl _ _ _ (160, [(0, .ref ac), (1, .ref a), (2, .int (nI p)), (3, .int (nI i)), (4, .int 1)], [.int 0], M126) _
                    exact ps_ret rfl rfl (Or.inr ⟨(31, p), by
                        rw [← hs9, faS_st (i := i) (by omega), hk9, q51_s]
                        dsimp only
                        rw [if_neg (fun h => h.2 hfe)]
                        rw [if_pos ⟨by decide, n_110, by rw [q144_s]; exact fun h => by cases h⟩], rfl, h128, hF136⟩)
                  · skip
                    obtain ⟨x138, q144_s, q144_x, rfl, rfl⟩ := q124
                    show pl _ _ _ (147, [(0, .ref ac), (1, .ref a), (2, .int (nI p)), (3, .int (nI i)), (4, .int 1)], [.int (nI x138), .int (nI (tg f E (by2 f (p + 6))))], M108) _
                    refine ps_if2 (S1 := (161, [(0, .ref ac), (1, .ref a), (2, .int (nI p)), (3, .int (nI i))], [], M108)) (S2 := (150, [(0, .ref ac), (1, .ref a), (2, .int (nI p)), (3, .int (nI i)), (4, .int 1)], [], M108)) rfl rfl rfl (fun c_147 => ?_) (fun c_147 => ?_)
                    · have c_147 : (nI (tg f E (by2 f (p + 6)))) = (nI x138) := of_decide_eq_true c_147
                      have n_147 : tg f E (by2 f (p + 6)) = x138 := (eq_nI (p := tg f E (by2 f (p + 6))) (n := x138) (Nat.lt_trans (tg_lt _ _ _) (by decide)) (by omega)).mp c_147
                      refine ps_st (S' := (162, [(0, .ref ac), (1, .ref a), (2, .int (nI p)), (3, .int (nI i))], [.ref ac], M108)) rfl rfl rfl ?_
                      refine ps_st (S' := (163, [(0, .ref ac), (1, .ref a), (2, .int (nI p)), (3, .int (nI i))], [.int (nI p), .ref ac], M108)) rfl rfl rfl ?_
                      refine pl_call (a := [.ref ac, .int (nI p)]) (rest := []) rfl rfl rfl (dk_behind (f := f) (n := n) (q := q) (ac := ac) (c := c) (b := b) (da := da) (vd := vd) (s1 := (nI s'62)) (p := p) h112 h113 h114 (hn) (by omega)) (fun v139 M140 q141 => ?_)
                      obtain ⟨rfl, rfl⟩ := q141
                      show pl _ _ _ (166, [(0, .ref ac), (1, .ref a), (2, .int (nI p)), (3, .int (nI i))], [.int (nI (p + 6 + by4 f (p + 2)))], M108) _
                      refine ps_st (S' := (167, [(2, .int (nI (p + 6 + by4 f (p + 2)))), (0, .ref ac), (1, .ref a), (3, .int (nI i))], [], M108)) rfl rfl rfl ?_
                      refine ps_st (S' := (170, [(3, .int ((nI i) + 1)), (2, .int (nI (p + 6 + by4 f (p + 2)))), (0, .ref ac), (1, .ref a)], [], M108)) rfl rfl rfl ?_
                      rw [nI_add1 (p := i) (k := 1) (x := 1) rfl (by omega)]
                      show pl _ _ _ (_, [(3, .int (nI (i + 1))), (2, .int (nI (p + 6 + by4 f (p + 2)))), (0, .ref ac), (1, .ref a)], [], M108) _
                      refine ps_st (S' := (12, [(0, .ref ac), (1, .ref a), (2, .int (nI (p + 6 + by4 f (p + 2)))), (3, .int (nI (i + 1)))], [], M108)) rfl rfl rfl ?_
                      exact ih (i + 1) (p + 6 + by4 f (p + 2)) ((s'62)) (kn2) ((nI (by2 f (p + 6)))) M108 h112 h113 h114 h115 h116 h109 hV117 hF118 (by omega) (q51_l) (hq7) (by
                          rw [← hs9, faS_st (i := i) (by omega), hk9, q51_s]
                          dsimp only
                          rw [if_neg (fun h => h.2 hfe)]
                          rw [if_neg (fun h => h.2.2 (by rw [q144_s, n_147]))])
                    · have c_147 : ¬ ((nI (tg f E (by2 f (p + 6)))) = (nI x138)) := of_decide_eq_false c_147
                      have n_147 : ¬ (tg f E (by2 f (p + 6)) = x138) := fun h9 => c_147 ((eq_nI (p := tg f E (by2 f (p + 6))) (n := x138) (Nat.lt_trans (tg_lt _ _ _) (by decide)) (by omega)).mpr h9)
                      refine ps_st (S' := (151, [(0, .ref ac), (1, .ref a), (2, .int (nI p)), (3, .int (nI i)), (4, .int 1)], [.ref ac], M108)) rfl rfl rfl ?_
                      refine ps_get (S' := (154, [(0, .ref ac), (1, .ref a), (2, .int (nI p)), (3, .int (nI i)), (4, .int 1)], [.ref vd], M108)) rfl h112 rfl rfl ?_
                      refine ps_st (S' := (156, [(0, .ref ac), (1, .ref a), (2, .int (nI p)), (3, .int (nI i)), (4, .int 1)], [.int 31, .ref vd], M108)) rfl rfl rfl ?_
                      refine ps_st (S' := (157, [(0, .ref ac), (1, .ref a), (2, .int (nI p)), (3, .int (nI i)), (4, .int 1)], [.int (nI p), .int 31, .ref vd], M108)) rfl rfl rfl ?_
                      refine pl_call (a := [.ref vd, .int 31, .int (nI p)]) (rest := []) rfl rfl rfl (dk_wrong (vd := vd) (ru := ru) (wa := wa) (x1 := 31) (x2 := (nI p)) h116) (fun v142 M143 q144 => ?_)
                      obtain ⟨rfl, h145, f146⟩ := q144
                      have h148 := (f146.1 ac (nin1 (ob_ne h112 h116 (by decide)))).trans h112
                      have h149 := (f146.1 b (nin1 (ob_ne h113 h116 (by decide)))).trans h113
                      have h150 := (f146.1 da (nin1 (Ne.symm (ob_ar h116 h114)))).trans h114
                      have h151 := (f146.1 c (nin1 (ob_ne h115 h116 (by decide)))).trans h115
                      have h152 := (f146.1 a (nin1 (ob_ne h109 h116 (by decide)))).trans h109
                      have hF153 := hF118.tr f146 (by simp)
                      have hV154 := hV117.keep f146.gm (n7c h116 (by decide) (n7nil))
                      show pl _ _ _ (160, [(0, .ref ac), (1, .ref a), (2, .int (nI p)), (3, .int (nI i)), (4, .int 1)], [.int 0], M143) _
                      exact ps_ret rfl rfl (Or.inr ⟨(31, p), by
                          rw [← hs9, faS_st (i := i) (by omega), hk9, q51_s]
                          dsimp only
                          rw [if_neg (fun h => h.2 hfe)]
                          rw [if_pos ⟨by decide, n_110, by rw [q144_s]; exact fun h => n_147 (Option.some.inj h).symm⟩], rfl, h145, hF153⟩)
              · have c_84 : ¬ ((nI x95) = (nI (p + 6 + by4 f (p + 2)))) := of_decide_eq_false c_84
                have n_84 : ¬ (x95 = p + 6 + by4 f (p + 2)) := fun h9 => c_84 ((eq_nI (p := x95) (n := p + 6 + by4 f (p + 2)) (by omega) (by omega)).mpr h9)
                have hfe : ¬ s_fe f 1 (p + 6) (p + 6 + by4 f (p + 2)) = some (p + 6 + by4 f (p + 2)) := by rw [q76_s]; exact fun h => n_84 (Option.some.inj h)
                refine ps_st (S' := (88, [(4, .int 1), (0, .ref ac), (1, .ref a), (2, .int (nI p)), (3, .int (nI i))], [.ref ac], M50)) rfl rfl rfl ?_
                refine ps_get (S' := (91, [(4, .int 1), (0, .ref ac), (1, .ref a), (2, .int (nI p)), (3, .int (nI i))], [.ref vd], M50)) rfl h63 rfl rfl ?_
                refine ps_st (S' := (93, [(4, .int 1), (0, .ref ac), (1, .ref a), (2, .int (nI p)), (3, .int (nI i))], [.int 30, .ref vd], M50)) rfl rfl rfl ?_
                refine ps_st (S' := (94, [(4, .int 1), (0, .ref ac), (1, .ref a), (2, .int (nI p)), (3, .int (nI i))], [.int (nI p), .int 30, .ref vd], M50)) rfl rfl rfl ?_
                refine pl_call (a := [.ref vd, .int 30, .int (nI p)]) (rest := []) rfl rfl rfl (dk_wrong (vd := vd) (ru := ru) (wa := wa) (x1 := 30) (x2 := (nI p)) h64) (fun v155 M156 q157 => ?_)
                obtain ⟨rfl, h158, f159⟩ := q157
                have h161 := (f159.1 ac (nin1 (ob_ne h63 h64 (by decide)))).trans h63
                have h162 := (f159.1 b (nin1 (ob_ne h67 h64 (by decide)))).trans h67
                have h163 := (f159.1 da (nin1 (Ne.symm (ob_ar h64 h68)))).trans h68
                have h164 := (f159.1 c (nin1 (ob_ne h69 h64 (by decide)))).trans h69
                have h165 := (f159.1 a (nin1 (ob_ne h70 h64 (by decide)))).trans h70
                have hF166 := hF71.tr f159 (by simp)
                have hV167 := hV72.keep f159.gm (n7c h64 (by decide) (n7nil))
                show pl _ _ _ (97, [(4, .int 1), (0, .ref ac), (1, .ref a), (2, .int (nI p)), (3, .int (nI i))], [.int 0], M156) _
                exact ps_ret rfl rfl (Or.inr ⟨(30, p), by
                    rw [← hs9, faS_st (i := i) (by omega), hk9, q51_s]
                    dsimp only
                    rw [if_pos ⟨by decide, hfe⟩], rfl, h158, hF166⟩)
  refine ps_st (S' := (1, [(0, .ref ac), (1, .ref a)], [.ref ac], M)) rfl rfl rfl ?_
  refine ps_st (S' := (2, [(0, .ref ac), (1, .ref a)], [.int 0, .ref ac], M)) rfl rfl rfl ?_
  refine ps_put (l' := [.ref c, .ref b, .ref q, .ref vd, .int 0]) rfl h_ac rfl rfl (fun M168 h169 f170 z171 => ?_)
  have h172 := (f170 b (ob_ne h_b h_ac (by decide))).trans h_b
  have h173 := (f170 da (Ne.symm (ob_ar h_ac h_da))).trans h_da
  have h174 := (f170 c (ob_ne h_c h_ac (by decide))).trans h_c
  have h175 := (f170 vd (ob_ne h_vd h_ac (by decide))).trans h_vd
  have h176 := (f170 a (ob_ne h_a h_ac (by decide))).trans h_a
  have hV177 := hV.put h_ac (by decide) f170 z171
  have hF178 := hF.up (by simp) f170 z171
  show pl _ _ _ (5, [(0, .ref ac), (1, .ref a)], [], M168) _
  refine ps_st (S' := (6, [(0, .ref ac), (1, .ref a)], [.ref a], M168)) rfl rfl rfl ?_
  refine ps_get (S' := (9, [(0, .ref ac), (1, .ref a)], [.int (nI (b0 + 8))], M168)) rfl h176 rfl rfl ?_
  refine ps_st (S' := (10, [(2, .int (nI (b0 + 8))), (0, .ref ac), (1, .ref a)], [], M168)) rfl rfl rfl ?_
  refine ps_st (S' := (11, [(2, .int (nI (b0 + 8))), (0, .ref ac), (1, .ref a)], [.int 0], M168)) rfl rfl rfl ?_
  refine ps_st (S' := (12, [(0, .ref ac), (1, .ref a), (2, .int (nI (b0 + 8))), (3, .int 0)], [], M168)) rfl rfl rfl ?_
  exact (LL kf) (0) (b0 + 8) (0) (kn) (co) M168 h169 h172 h173 h174 h175 h176 hV177 hF178 (by omega) (by decide) (hat) (rfl)
set_option maxHeartbeats 1000000 in
theorem dk_ofMethod {g : xe_G} {M : mi_H} {f : Nat → Int32} {n N q : Nat} {E : List (Nat × Nat)} {ac c b da vd fr mr fa ic mj na pa : Nat} {mi ru wa s1 k1 k2 k3 k4 k5 k6 k7 : Int32} {a b0 e0 w : Nat} {kn co ex : Int32} (h_ac : M.1 ac = some (ob 0 [.ref c, .ref b, .ref q, .ref vd, .int s1])) (h_b : M.1 b = some (ob 1 [.ref da])) (h_da : M.1 da = some (ar .byte n f)) (h_c : M.1 c = some (ob 3 [.ref b, .ref q, .int mi, .int (nI mj), .int (nI fa), .int (nI ic), .ref fr, .ref mr, .int (nI na), .int (nI pa), .int k1, .int k2, .int k3, .int k4, .int k5, .int k6, .int k7])) (h_vd : M.1 vd = some (ob 10 [.int ru, .int wa])) (h_a : M.1 a = some (ob 6 [.int (nI b0), .int (nI (by2 f b0)), .int (nI (by2 f (b0 + 2))), .int (nI (by2 f (b0 + 4))), .int (nI (by2 f (b0 + 6))), .int (nI (b0 + 8)), .int kn, .int co, .int (nI w), .int ex, .null])) (hn : n ≤ 65540) (hmj : mj < 65536) (hb1 : b0 + 8 ≤ n) (hat : s_atts f n (by2 f (b0 + 6)) (b0 + 8) = .inr e0) (hw : w < 100000) (hV : PV g f n N E q M) (l_ac : ac < M.2.1) (l_c : c < M.2.1) (l_b : b < M.2.1) (l_da : da < M.2.1) (l_vd : vd < M.2.1) (l_a : a < M.2.1) (l_q : q < M.2.1) : pt (mT g) 40 [.ref ac, .ref a] M (fun v M' => (∃ (h : Nat) (s2 kn2 ex2 : Int32) (cd2 : Value), (maS f n E mj w (by2 f (b0 + 6)) (b0 + 8) 0 0 = .inr h) ∧ ((h = 0 ∧ cd2 = .null) ∨ (h = 1 ∧ ∃ z9, cd2 = .ref z9)) ∧ v = some (.int 1) ∧ M'.1 vd = some (ob 10 [.int ru, .int wa]) ∧ M'.1 ac = some (ob 0 [.ref c, .ref b, .ref q, .ref vd, .int s2]) ∧ M'.1 a = some (ob 6 [.int (nI b0), .int (nI (by2 f b0)), .int (nI (by2 f (b0 + 2))), .int (nI (by2 f (b0 + 4))), .int (nI (by2 f (b0 + 6))), .int (nI (b0 + 8)), .int kn2, .int co, .int (nI w), .int ex2, cd2]) ∧ gm [ac, vd, a] M M' ∧ M.2.1 ≤ M'.2.1) ∨ (∃ (e9 : Nat × Nat), (maS f n E mj w (by2 f (b0 + 6)) (b0 + 8) 0 0 = .inl e9) ∧ v = some (.int 0) ∧ M'.1 vd = some (ob 10 [.int (nI e9.1), .int (nI e9.2)]) ∧ gm [ac, vd, a] M M' ∧ M.2.1 ≤ M'.2.1)) := by
  refine pt_in (b := mb_40 g) rfl (fun kf => ?_)
  show pl (mT g) kf (mb_40 g).2 (0, [(0, .ref ac), (1, .ref a)], [], M) _
  have hF : gm [ac, vd, a] M M := gm.rf
  obtain ⟨z0, tp0⟩ : ∃ z0, M.2.1 = z0 := ⟨_, rfl⟩
  have LL : ∀ (kf : Nat), (∀ (i p s2 h t1 : Nat) (kn2 ex2 : Int32) (cd2 : Value) (M1 : mi_H), (M1.1 ac = some (ob 0 [.ref c, .ref b, .ref q, .ref vd, .int (nI s2)])) → (M1.1 b = some (ob 1 [.ref da])) → (M1.1 da = some (ar .byte n f)) → (M1.1 c = some (ob 3 [.ref b, .ref q, .int mi, .int (nI mj), .int (nI fa), .int (nI ic), .ref fr, .ref mr, .int (nI na), .int (nI pa), .int k1, .int k2, .int k3, .int k4, .int k5, .int k6, .int k7])) → (M1.1 vd = some (ob 10 [.int ru, .int wa])) → (M1.1 a = some (ob 6 [.int (nI b0), .int (nI (by2 f b0)), .int (nI (by2 f (b0 + 2))), .int (nI (by2 f (b0 + 4))), .int (nI (by2 f (b0 + 6))), .int (nI (b0 + 8)), .int kn2, .int co, .int (nI w), .int ex2, cd2])) → (PV g f n N E q M1) → (gm [ac, vd, a] M M1) → (M1.2.1 = t1) → (z0 ≤ t1) → (i ≤ by2 f (b0 + 6)) → (s2 < 2048) → ((h = 0 ∧ cd2 = .null) ∨ (h = 1 ∧ ∃ z9, cd2 = .ref z9)) → (s_atts f n (by2 f (b0 + 6) - i) p = .inr e0) → (maS f n E mj w (by2 f (b0 + 6) - i) p s2 h = maS f n E mj w (by2 f (b0 + 6)) (b0 + 8) 0 0) →  pl (mT g) kf (mb_40 g).2 (12, [(0, .ref ac), (1, .ref a), (2, .int (nI p)), (3, .int (nI i))], [], M1) (fun v M' => (∃ (h : Nat) (s2 kn2 ex2 : Int32) (cd2 : Value), (maS f n E mj w (by2 f (b0 + 6)) (b0 + 8) 0 0 = .inr h) ∧ ((h = 0 ∧ cd2 = .null) ∨ (h = 1 ∧ ∃ z9, cd2 = .ref z9)) ∧ v = some (.int 1) ∧ M'.1 vd = some (ob 10 [.int ru, .int wa]) ∧ M'.1 ac = some (ob 0 [.ref c, .ref b, .ref q, .ref vd, .int s2]) ∧ M'.1 a = some (ob 6 [.int (nI b0), .int (nI (by2 f b0)), .int (nI (by2 f (b0 + 2))), .int (nI (by2 f (b0 + 4))), .int (nI (by2 f (b0 + 6))), .int (nI (b0 + 8)), .int kn2, .int co, .int (nI w), .int ex2, cd2]) ∧ gm [ac, vd, a] M M' ∧ M.2.1 ≤ M'.2.1) ∨ (∃ (e9 : Nat × Nat), (maS f n E mj w (by2 f (b0 + 6)) (b0 + 8) 0 0 = .inl e9) ∧ v = some (.int 0) ∧ M'.1 vd = some (ob 10 [.int (nI e9.1), .int (nI e9.2)]) ∧ gm [ac, vd, a] M M' ∧ M.2.1 ≤ M'.2.1))) := by
    intro kf
    induction kf with
    | zero => exact (by intros; exact pl_0)
    | succ kf ih =>
      intro i p s2 h t1 kn2 ex2 cd2 M1 hl_ac hl_b hl_da hl_c hl_vd hl_a hV1 hF1 tp1 ht hi hl hh ha hs9
      have hu9 := by2_lt f (b0 + 6)
      refine ps_st1 (S' := (13, [(0, .ref ac), (1, .ref a), (2, .int (nI p)), (3, .int (nI i))], [.int (nI i)], M1)) rfl rfl rfl ?_
      refine ps_st (S' := (14, [(0, .ref ac), (1, .ref a), (2, .int (nI p)), (3, .int (nI i))], [.ref a, .int (nI i)], M1)) rfl rfl rfl ?_
      refine ps_get (S' := (17, [(0, .ref ac), (1, .ref a), (2, .int (nI p)), (3, .int (nI i))], [.int (nI (by2 f (b0 + 6))), .int (nI i)], M1)) rfl hl_a rfl rfl ?_
      refine ps_if2 (S1 := (154, [(0, .ref ac), (1, .ref a), (2, .int (nI p)), (3, .int (nI i))], [], M1)) (S2 := (20, [(0, .ref ac), (1, .ref a), (2, .int (nI p)), (3, .int (nI i))], [], M1)) rfl rfl rfl (fun c_17 => ?_) (fun c_17 => ?_)
      · have c_17 : (nI (by2 f (b0 + 6))) ≤ (nI i) := of_decide_eq_true c_17
        have n_17 : by2 f (b0 + 6) ≤ i := (le_nI (p := by2 f (b0 + 6)) (n := i) (Nat.lt_trans (by2_lt _ _) (by decide)) (by omega)).mp c_17
        refine ps_st (S' := (155, [(0, .ref ac), (1, .ref a), (2, .int (nI p)), (3, .int (nI i))], [.ref a], M1)) rfl rfl rfl ?_
        refine ps_st (S' := (156, [(0, .ref ac), (1, .ref a), (2, .int (nI p)), (3, .int (nI i))], [.ref ac, .ref a], M1)) rfl rfl rfl ?_
        refine ps_get (S' := (159, [(0, .ref ac), (1, .ref a), (2, .int (nI p)), (3, .int (nI i))], [.int (nI s2), .ref a], M1)) rfl hl_ac rfl rfl ?_
        refine ps_st (S' := (161, [(0, .ref ac), (1, .ref a), (2, .int (nI p)), (3, .int (nI i))], [.int 12, .int (nI s2), .ref a], M1)) rfl rfl rfl ?_
        refine ps_st (S' := (162, [(0, .ref ac), (1, .ref a), (2, .int (nI p)), (3, .int (nI i))], [.int ((nI s2) &&& 12), .ref a], M1)) rfl rfl rfl ?_
        rw [nI_an (p := s2) (k := 12) (x := 12) rfl]
        show pl _ _ _ (_, [(0, .ref ac), (1, .ref a), (2, .int (nI p)), (3, .int (nI i))], [.int (nI (aN s2 12)), .ref a], M1) _
        refine pl_call (a := [.int (nI (aN s2 12))]) (rest := [.ref a]) rfl rfl rfl (dk_bitCountA (y := (nI (aN s2 12)))) (fun v1 M2 q3 => ?_)
        obtain ⟨x4, rfl, rfl⟩ := q3
        show pl _ _ _ (165, [(0, .ref ac), (1, .ref a), (2, .int (nI p)), (3, .int (nI i))], [.int x4, .ref a], M1) _
        refine ps_put (l' := [.int (nI b0), .int (nI (by2 f b0)), .int (nI (by2 f (b0 + 2))), .int (nI (by2 f (b0 + 4))), .int (nI (by2 f (b0 + 6))), .int (nI (b0 + 8)), .int x4, .int co, .int (nI w), .int ex2, cd2]) rfl hl_a rfl rfl (fun M5 h6 f7 z8 => ?_)
        have h9 := (f7 ac (ob_ne hl_ac hl_a (by decide))).trans hl_ac
        have h10 := (f7 b (ob_ne hl_b hl_a (by decide))).trans hl_b
        have h11 := (f7 da (Ne.symm (ob_ar hl_a hl_da))).trans hl_da
        have h12 := (f7 c (ob_ne hl_c hl_a (by decide))).trans hl_c
        have h13 := (f7 vd (ob_ne hl_vd hl_a (by decide))).trans hl_vd
        have hV14 := hV1.put hl_a (by decide) f7 z8
        have hF15 := hF1.up (Or.inl (by simp)) f7 (by rw [z8]; exact Nat.le_refl _)
        have tp16 : M5.2.1 = t1 := by rw [z8]; exact tp1
        show pl _ _ _ (168, [(0, .ref ac), (1, .ref a), (2, .int (nI p)), (3, .int (nI i))], [], M5) _
        refine ps_st (S' := (169, [(0, .ref ac), (1, .ref a), (2, .int (nI p)), (3, .int (nI i))], [.int 1], M5)) rfl rfl rfl ?_
        exact ps_ret rfl rfl (Or.inl ⟨h, _, _, _, _, by rw [← hs9, show by2 f (b0 + 6) - i = 0 by omega]; rfl, hh, rfl, h13, h9, h6, hF15, hF15.2⟩)
      · have c_17 : ¬ ((nI (by2 f (b0 + 6))) ≤ (nI i)) := of_decide_eq_false c_17
        have n_17 : ¬ (by2 f (b0 + 6) ≤ i) := fun h9 => c_17 ((le_nI (p := by2 f (b0 + 6)) (n := i) (Nat.lt_trans (by2_lt _ _) (by decide)) (by omega)).mpr h9)
        obtain ⟨hq5, hq6, hq7⟩ := s_atts_in (i := i) (p := p) ha (by omega)
        refine ps_st (S' := (21, [(0, .ref ac), (1, .ref a), (2, .int (nI p)), (3, .int (nI i))], [.ref ac], M1)) rfl rfl rfl ?_
        refine ps_st (S' := (22, [(0, .ref ac), (1, .ref a), (2, .int (nI p)), (3, .int (nI i))], [.ref ac, .ref ac], M1)) rfl rfl rfl ?_
        refine ps_get (S' := (25, [(0, .ref ac), (1, .ref a), (2, .int (nI p)), (3, .int (nI i))], [.ref b, .ref ac], M1)) rfl hl_ac rfl rfl ?_
        refine ps_st (S' := (26, [(0, .ref ac), (1, .ref a), (2, .int (nI p)), (3, .int (nI i))], [.int (nI p), .ref b, .ref ac], M1)) rfl rfl rfl ?_
        refine pl_call (a := [.ref b, .int (nI p)]) (rest := [.ref ac]) rfl rfl rfl (dk_u2 (f := f) (n := n) (b := b) (da := da) (p := p) hl_b hl_da (hn) (by omega)) (fun v17 M18 q19 => ?_)
        obtain ⟨rfl, rfl⟩ := q19
        show pl _ _ _ (29, [(0, .ref ac), (1, .ref a), (2, .int (nI p)), (3, .int (nI i))], [.int (nI (by2 f p)), .ref ac], M1) _
        have hu_26 := by2_lt f p
        refine pl_call (a := [.ref ac, .int (nI (by2 f p))]) (rest := []) rfl rfl rfl (dk_methodKind (f := f) (n := n) (N := N) (q := q) (E := E) (ac := ac) (c := c) (b := b) (da := da) (vd := vd) (fr := fr) (mr := mr) (fa := fa) (ic := ic) (mj := mj) (na := na) (pa := pa) (mi := mi) (ru := ru) (wa := wa) (s1 := (nI s2)) (k1 := k1) (k2 := k2) (k3 := k3) (k4 := k4) (k5 := k5) (k6 := k6) (k7 := k7) (x := (by2 f p)) hl_ac hl_b hl_da (hn) (by2_lt _ _) (hV1)) (fun v20 M21 q22 => ?_)
        obtain ⟨rfl, rfl⟩ := q22
        show pl _ _ _ (32, [(0, .ref ac), (1, .ref a), (2, .int (nI p)), (3, .int (nI i))], [.int (nI (mkN f n E (by2 f p)))], M1) _
        have hk8 := le_mk f n E (by2 f p)
        refine ps_st (S' := (34, [(4, .int (nI (mkN f n E (by2 f p)))), (0, .ref ac), (1, .ref a), (2, .int (nI p)), (3, .int (nI i))], [], M1)) rfl rfl rfl ?_
        refine ps_st (S' := (35, [(4, .int (nI (mkN f n E (by2 f p)))), (0, .ref ac), (1, .ref a), (2, .int (nI p)), (3, .int (nI i))], [.ref ac], M1)) rfl rfl rfl ?_
        refine ps_st (S' := (36, [(4, .int (nI (mkN f n E (by2 f p)))), (0, .ref ac), (1, .ref a), (2, .int (nI p)), (3, .int (nI i))], [.int (nI p), .ref ac], M1)) rfl rfl rfl ?_
        refine ps_st (S' := (38, [(4, .int (nI (mkN f n E (by2 f p)))), (0, .ref ac), (1, .ref a), (2, .int (nI p)), (3, .int (nI i))], [.int (nI (mkN f n E (by2 f p))), .int (nI p), .ref ac], M1)) rfl rfl rfl ?_
        refine pl_call (a := [.ref ac, .int (nI p), .int (nI (mkN f n E (by2 f p)))]) (rest := []) rfl rfl rfl (dk_isNew (f := f) (n := n) (N := N) (q := q) (E := E) (ac := ac) (c := c) (b := b) (da := da) (vd := vd) (fr := fr) (mr := mr) (fa := fa) (ic := ic) (mj := mj) (na := na) (pa := pa) (mi := mi) (ru := ru) (wa := wa) (k1 := k1) (k2 := k2) (k3 := k3) (k4 := k4) (k5 := k5) (k6 := k6) (k7 := k7) (s := s2) (k := (mkN f n E (by2 f p))) (p := p) hl_ac hl_b hl_da hl_vd (hn) (by omega) (by omega) (by omega) (hV1)) (fun v23 M24 q25 => ?_)
        rcases q25 with q25 | q25
        · skip
          obtain ⟨e26, q38_s, rfl, h27, f28⟩ := q25
          have h30 := (f28.1 b (nin2 (ob_ne hl_b hl_ac (by decide)) (ob_ne hl_b hl_vd (by decide)))).trans hl_b
          have h31 := (f28.1 da (nin2 (Ne.symm (ob_ar hl_ac hl_da)) (Ne.symm (ob_ar hl_vd hl_da)))).trans hl_da
          have h32 := (f28.1 c (nin2 (ob_ne hl_c hl_ac (by decide)) (ob_ne hl_c hl_vd (by decide)))).trans hl_c
          have h33 := (f28.1 a (nin2 (ob_ne hl_a hl_ac (by decide)) (ob_ne hl_a hl_vd (by decide)))).trans hl_a
          have hF34 := hF1.trf f28 (by intro z hz; simp only [List.mem_cons, List.not_mem_nil, or_false] at hz ⊢; try omega)
          have tp35 : M24.2.1 = t1 := by rw [f28.2]; exact tp1
          have hV36 := hV1.keep f28.gm (n7c hl_ac (by decide) (n7c hl_vd (by decide) (n7nil)))
          show pl _ _ _ (41, [(4, .int (nI (mkN f n E (by2 f p)))), (0, .ref ac), (1, .ref a), (2, .int (nI p)), (3, .int (nI i))], [.int 0], M24) _
          refine ps_if (S1 := (46, [(4, .int (nI (mkN f n E (by2 f p)))), (0, .ref ac), (1, .ref a), (2, .int (nI p)), (3, .int (nI i))], [], M24)) (S2 := (44, [(4, .int (nI (mkN f n E (by2 f p)))), (0, .ref ac), (1, .ref a), (2, .int (nI p)), (3, .int (nI i))], [], M24)) rfl rfl rfl (fun c_41 => ?_) (fun c_41 => ?_)
          · exact absurd (of_decide_eq_true c_41) (by decide)
          refine ps_st (S' := (45, [(4, .int (nI (mkN f n E (by2 f p)))), (0, .ref ac), (1, .ref a), (2, .int (nI p)), (3, .int (nI i))], [.int 0], M24)) rfl rfl rfl ?_
          exact ps_ret rfl rfl (Or.inr ⟨e26, by
              rw [← hs9, maS_st (i := i) (by omega), q38_s], rfl, h27, hF34, hF34.2⟩)
        · skip
          obtain ⟨s'37, q38_s, q38_l, rfl, h38, h39, f40⟩ := q25
          have h42 := (f40.1 b (nin2 (ob_ne hl_b hl_ac (by decide)) (ob_ne hl_b hl_vd (by decide)))).trans hl_b
          have h43 := (f40.1 da (nin2 (Ne.symm (ob_ar hl_ac hl_da)) (Ne.symm (ob_ar hl_vd hl_da)))).trans hl_da
          have h44 := (f40.1 c (nin2 (ob_ne hl_c hl_ac (by decide)) (ob_ne hl_c hl_vd (by decide)))).trans hl_c
          have h45 := (f40.1 a (nin2 (ob_ne hl_a hl_ac (by decide)) (ob_ne hl_a hl_vd (by decide)))).trans hl_a
          have hF46 := hF1.trf f40 (by intro z hz; simp only [List.mem_cons, List.not_mem_nil, or_false] at hz ⊢; try omega)
          have tp47 : M24.2.1 = t1 := by rw [f40.2]; exact tp1
          have hV48 := hV1.keep f40.gm (n7c hl_ac (by decide) (n7c hl_vd (by decide) (n7nil)))
          show pl _ _ _ (41, [(4, .int (nI (mkN f n E (by2 f p)))), (0, .ref ac), (1, .ref a), (2, .int (nI p)), (3, .int (nI i))], [.int 1], M24) _
          refine ps_if (S1 := (46, [(4, .int (nI (mkN f n E (by2 f p)))), (0, .ref ac), (1, .ref a), (2, .int (nI p)), (3, .int (nI i))], [], M24)) (S2 := (44, [(4, .int (nI (mkN f n E (by2 f p)))), (0, .ref ac), (1, .ref a), (2, .int (nI p)), (3, .int (nI i))], [], M24)) rfl rfl rfl (fun c_41 => ?_) (fun c_41 => ?_)
          rotate_left
          · exact absurd (by decide) (of_decide_eq_false c_41)
          refine ps_st (S' := (48, [(4, .int (nI (mkN f n E (by2 f p)))), (0, .ref ac), (1, .ref a), (2, .int (nI p)), (3, .int (nI i))], [.int (nI (mkN f n E (by2 f p)))], M24)) rfl rfl rfl ?_
          refine ps_if (S1 := (85, [(0, .ref ac), (1, .ref a), (2, .int (nI p)), (3, .int (nI i)), (4, .int (nI (mkN f n E (by2 f p))))], [], M24)) (S2 := (51, [(4, .int (nI (mkN f n E (by2 f p)))), (0, .ref ac), (1, .ref a), (2, .int (nI p)), (3, .int (nI i))], [], M24)) rfl rfl rfl (fun c_48 => ?_) (fun c_48 => ?_)
          · have c_48 : (nI (mkN f n E (by2 f p))) = 0 := of_decide_eq_true c_48
            have n_48 : mkN f n E (by2 f p) = 0 := (eq_nI (p := mkN f n E (by2 f p)) (n := 0) (Nat.lt_trans (le_mk _ _ _ _) (by decide)) (by decide)).mp c_48
            refine ps_st (S' := (87, [(0, .ref ac), (1, .ref a), (2, .int (nI p)), (3, .int (nI i)), (4, .int (nI (mkN f n E (by2 f p))))], [.int (nI (mkN f n E (by2 f p)))], M24)) rfl rfl rfl ?_
            refine ps_st (S' := (88, [(0, .ref ac), (1, .ref a), (2, .int (nI p)), (3, .int (nI i)), (4, .int (nI (mkN f n E (by2 f p))))], [.int 2, .int (nI (mkN f n E (by2 f p)))], M24)) rfl rfl rfl ?_
            refine ps_if2 (S1 := (102, [(0, .ref ac), (1, .ref a), (2, .int (nI p)), (3, .int (nI i)), (4, .int (nI (mkN f n E (by2 f p))))], [], M24)) (S2 := (91, [(0, .ref ac), (1, .ref a), (2, .int (nI p)), (3, .int (nI i)), (4, .int (nI (mkN f n E (by2 f p))))], [], M24)) rfl rfl rfl (fun c_88 => ?_) (fun c_88 => ?_)
            rotate_left
            · exact absurd (show ¬ ((nI (mkN f n E (by2 f p))) = 2) from fun h9 => absurd ((eq_nI (p := mkN f n E (by2 f p)) (n := 2) (Nat.lt_trans (le_mk _ _ _ _) (by decide)) (by decide)).mp h9) (by omega)) (of_decide_eq_false c_88)
            refine ps_st (S' := (104, [(0, .ref ac), (1, .ref a), (2, .int (nI p)), (3, .int (nI i)), (4, .int (nI (mkN f n E (by2 f p))))], [.int (nI (mkN f n E (by2 f p)))], M24)) rfl rfl rfl ?_
            refine ps_st (S' := (105, [(0, .ref ac), (1, .ref a), (2, .int (nI p)), (3, .int (nI i)), (4, .int (nI (mkN f n E (by2 f p))))], [.int 3, .int (nI (mkN f n E (by2 f p)))], M24)) rfl rfl rfl ?_
            refine ps_if2 (S1 := (142, [(0, .ref ac), (1, .ref a), (2, .int (nI p)), (3, .int (nI i))], [], M24)) (S2 := (108, [(0, .ref ac), (1, .ref a), (2, .int (nI p)), (3, .int (nI i)), (4, .int (nI (mkN f n E (by2 f p))))], [], M24)) rfl rfl rfl (fun c_105 => ?_) (fun c_105 => ?_)
            rotate_left
            · exact absurd (show ¬ ((nI (mkN f n E (by2 f p))) = 3) from fun h9 => absurd ((eq_nI (p := mkN f n E (by2 f p)) (n := 3) (Nat.lt_trans (le_mk _ _ _ _) (by decide)) (by decide)).mp h9) (by omega)) (of_decide_eq_false c_105)
            refine ps_st (S' := (143, [(0, .ref ac), (1, .ref a), (2, .int (nI p)), (3, .int (nI i))], [.ref ac], M24)) rfl rfl rfl ?_
            refine ps_st (S' := (144, [(0, .ref ac), (1, .ref a), (2, .int (nI p)), (3, .int (nI i))], [.int (nI p), .ref ac], M24)) rfl rfl rfl ?_
            refine pl_call (a := [.ref ac, .int (nI p)]) (rest := []) rfl rfl rfl (dk_behind (f := f) (n := n) (q := q) (ac := ac) (c := c) (b := b) (da := da) (vd := vd) (s1 := (nI s'37)) (p := p) h38 h42 h43 (hn) (by omega)) (fun v49 M50 q51 => ?_)
            obtain ⟨rfl, rfl⟩ := q51
            show pl _ _ _ (147, [(0, .ref ac), (1, .ref a), (2, .int (nI p)), (3, .int (nI i))], [.int (nI (p + 6 + by4 f (p + 2)))], M24) _
            refine ps_st (S' := (148, [(2, .int (nI (p + 6 + by4 f (p + 2)))), (0, .ref ac), (1, .ref a), (3, .int (nI i))], [], M24)) rfl rfl rfl ?_
            refine ps_st (S' := (151, [(3, .int ((nI i) + 1)), (2, .int (nI (p + 6 + by4 f (p + 2)))), (0, .ref ac), (1, .ref a)], [], M24)) rfl rfl rfl ?_
            rw [nI_add1 (p := i) (k := 1) (x := 1) rfl (by omega)]
            show pl _ _ _ (_, [(3, .int (nI (i + 1))), (2, .int (nI (p + 6 + by4 f (p + 2)))), (0, .ref ac), (1, .ref a)], [], M24) _
            refine ps_st (S' := (12, [(0, .ref ac), (1, .ref a), (2, .int (nI (p + 6 + by4 f (p + 2)))), (3, .int (nI (i + 1)))], [], M24)) rfl rfl rfl ?_
            exact ih (i + 1) (p + 6 + by4 f (p + 2)) ((s'37)) (h) (t1) (kn2) (ex2) (cd2) M24 h38 h42 h43 h44 h39 h45 hV48 hF46 (tp47) (by omega) (by omega) (q38_l) (hh) (hq7) (by
                rw [← hs9, maS_st (i := i) (by omega), q38_s]
                dsimp only
                rw [if_neg (fun h => h.1 n_48), if_neg (by omega), if_neg (by omega)])
          · have c_48 : ¬ ((nI (mkN f n E (by2 f p))) = 0) := of_decide_eq_false c_48
            have n_48 : ¬ (mkN f n E (by2 f p) = 0) := fun h9 => c_48 ((eq_nI (p := mkN f n E (by2 f p)) (n := 0) (Nat.lt_trans (le_mk _ _ _ _) (by decide)) (by decide)).mpr h9)
            refine ps_st (S' := (52, [(4, .int (nI (mkN f n E (by2 f p)))), (0, .ref ac), (1, .ref a), (2, .int (nI p)), (3, .int (nI i))], [.ref ac], M24)) rfl rfl rfl ?_
            refine ps_st (S' := (54, [(4, .int (nI (mkN f n E (by2 f p)))), (0, .ref ac), (1, .ref a), (2, .int (nI p)), (3, .int (nI i))], [.int (nI (mkN f n E (by2 f p))), .ref ac], M24)) rfl rfl rfl ?_
            refine ps_st (S' := (55, [(4, .int (nI (mkN f n E (by2 f p)))), (0, .ref ac), (1, .ref a), (2, .int (nI p)), (3, .int (nI i))], [.int (nI p), .int (nI (mkN f n E (by2 f p))), .ref ac], M24)) rfl rfl rfl ?_
            refine ps_st (S' := (57, [(4, .int (nI (mkN f n E (by2 f p)))), (0, .ref ac), (1, .ref a), (2, .int (nI p)), (3, .int (nI i))], [.int 6, .int (nI p), .int (nI (mkN f n E (by2 f p))), .ref ac], M24)) rfl rfl rfl ?_
            refine ps_st (S' := (58, [(4, .int (nI (mkN f n E (by2 f p)))), (0, .ref ac), (1, .ref a), (2, .int (nI p)), (3, .int (nI i))], [.int ((nI p) + 6), .int (nI (mkN f n E (by2 f p))), .ref ac], M24)) rfl rfl rfl ?_
            rw [nI_add1 (p := p) (k := 6) (x := 6) rfl (by omega)]
            show pl _ _ _ (_, [(4, .int (nI (mkN f n E (by2 f p)))), (0, .ref ac), (1, .ref a), (2, .int (nI p)), (3, .int (nI i))], [.int (nI (p + 6)), .int (nI (mkN f n E (by2 f p))), .ref ac], M24) _
            refine ps_st (S' := (59, [(4, .int (nI (mkN f n E (by2 f p)))), (0, .ref ac), (1, .ref a), (2, .int (nI p)), (3, .int (nI i))], [.ref ac, .int (nI (p + 6)), .int (nI (mkN f n E (by2 f p))), .ref ac], M24)) rfl rfl rfl ?_
            refine ps_st (S' := (60, [(4, .int (nI (mkN f n E (by2 f p)))), (0, .ref ac), (1, .ref a), (2, .int (nI p)), (3, .int (nI i))], [.int (nI p), .ref ac, .int (nI (p + 6)), .int (nI (mkN f n E (by2 f p))), .ref ac], M24)) rfl rfl rfl ?_
            refine pl_call (a := [.ref ac, .int (nI p)]) (rest := [.int (nI (p + 6)), .int (nI (mkN f n E (by2 f p))), .ref ac]) rfl rfl rfl (dk_behind (f := f) (n := n) (q := q) (ac := ac) (c := c) (b := b) (da := da) (vd := vd) (s1 := (nI s'37)) (p := p) h38 h42 h43 (hn) (by omega)) (fun v52 M53 q54 => ?_)
            obtain ⟨rfl, rfl⟩ := q54
            show pl _ _ _ (63, [(4, .int (nI (mkN f n E (by2 f p)))), (0, .ref ac), (1, .ref a), (2, .int (nI p)), (3, .int (nI i))], [.int (nI (p + 6 + by4 f (p + 2))), .int (nI (p + 6)), .int (nI (mkN f n E (by2 f p))), .ref ac], M24) _
            refine pl_call (a := [.ref ac, .int (nI (mkN f n E (by2 f p))), .int (nI (p + 6)), .int (nI (p + 6 + by4 f (p + 2)))]) (rest := []) rfl rfl rfl (dk_formEnd (f := f) (n := n) (q := q) (ac := ac) (c := c) (b := b) (da := da) (vd := vd) (s1 := (nI s'37)) (k := (mkN f n E (by2 f p))) (p0 := (p + 6)) (e := (p + 6 + by4 f (p + 2))) h38 h42 h43 (hn) (by omega) (by omega)) (fun v55 M56 q57 => ?_)
            rcases q57 with q57 | q57
            · skip
              obtain ⟨q63_s, rfl, rfl⟩ := q57
              show pl _ _ _ (66, [(4, .int (nI (mkN f n E (by2 f p)))), (0, .ref ac), (1, .ref a), (2, .int (nI p)), (3, .int (nI i))], [.int (-1)], M24) _
              refine ps_st (S' := (67, [(4, .int (nI (mkN f n E (by2 f p)))), (0, .ref ac), (1, .ref a), (2, .int (nI p)), (3, .int (nI i))], [.ref ac, .int (-1)], M24)) rfl rfl rfl ?_
              refine ps_st (S' := (68, [(4, .int (nI (mkN f n E (by2 f p)))), (0, .ref ac), (1, .ref a), (2, .int (nI p)), (3, .int (nI i))], [.int (nI p), .ref ac, .int (-1)], M24)) rfl rfl rfl ?_
              refine pl_call (a := [.ref ac, .int (nI p)]) (rest := [.int (-1)]) rfl rfl rfl (dk_behind (f := f) (n := n) (q := q) (ac := ac) (c := c) (b := b) (da := da) (vd := vd) (s1 := (nI s'37)) (p := p) h38 h42 h43 (hn) (by omega)) (fun v58 M59 q60 => ?_)
              obtain ⟨rfl, rfl⟩ := q60
              show pl _ _ _ (71, [(4, .int (nI (mkN f n E (by2 f p)))), (0, .ref ac), (1, .ref a), (2, .int (nI p)), (3, .int (nI i))], [.int (nI (p + 6 + by4 f (p + 2))), .int (-1)], M24) _
              refine ps_if2 (S1 := (85, [(0, .ref ac), (1, .ref a), (2, .int (nI p)), (3, .int (nI i)), (4, .int (nI (mkN f n E (by2 f p))))], [], M24)) (S2 := (74, [(4, .int (nI (mkN f n E (by2 f p)))), (0, .ref ac), (1, .ref a), (2, .int (nI p)), (3, .int (nI i))], [], M24)) rfl rfl rfl (fun c_71 => ?_) (fun c_71 => ?_)
              · exact absurd (of_decide_eq_true c_71) (m1_ne (by omega))
              have hfe : ¬ s_fe f (mkN f n E (by2 f p)) (p + 6) (p + 6 + by4 f (p + 2)) = some (p + 6 + by4 f (p + 2)) := by rw [q63_s]; exact fun h => by cases h
              refine ps_st (S' := (75, [(4, .int (nI (mkN f n E (by2 f p)))), (0, .ref ac), (1, .ref a), (2, .int (nI p)), (3, .int (nI i))], [.ref ac], M24)) rfl rfl rfl ?_
              refine ps_get (S' := (78, [(4, .int (nI (mkN f n E (by2 f p)))), (0, .ref ac), (1, .ref a), (2, .int (nI p)), (3, .int (nI i))], [.ref vd], M24)) rfl h38 rfl rfl ?_
              refine ps_st (S' := (80, [(4, .int (nI (mkN f n E (by2 f p)))), (0, .ref ac), (1, .ref a), (2, .int (nI p)), (3, .int (nI i))], [.int 30, .ref vd], M24)) rfl rfl rfl ?_
              refine ps_st (S' := (81, [(4, .int (nI (mkN f n E (by2 f p)))), (0, .ref ac), (1, .ref a), (2, .int (nI p)), (3, .int (nI i))], [.int (nI p), .int 30, .ref vd], M24)) rfl rfl rfl ?_
              refine pl_call (a := [.ref vd, .int 30, .int (nI p)]) (rest := []) rfl rfl rfl (dk_wrong (vd := vd) (ru := ru) (wa := wa) (x1 := 30) (x2 := (nI p)) h39) (fun v61 M62 q63 => ?_)
              obtain ⟨rfl, h64, f65⟩ := q63
              have h67 := (f65.1 ac (nin1 (ob_ne h38 h39 (by decide)))).trans h38
              have h68 := (f65.1 b (nin1 (ob_ne h42 h39 (by decide)))).trans h42
              have h69 := (f65.1 da (nin1 (Ne.symm (ob_ar h39 h43)))).trans h43
              have h70 := (f65.1 c (nin1 (ob_ne h44 h39 (by decide)))).trans h44
              have h71 := (f65.1 a (nin1 (ob_ne h45 h39 (by decide)))).trans h45
              have hF72 := hF46.trf f65 (by intro z hz; simp only [List.mem_cons, List.not_mem_nil, or_false] at hz ⊢; try omega)
              have tp73 : M62.2.1 = t1 := by rw [f65.2]; exact tp47
              have hV74 := hV48.keep f65.gm (n7c h39 (by decide) (n7nil))
              show pl _ _ _ (84, [(4, .int (nI (mkN f n E (by2 f p)))), (0, .ref ac), (1, .ref a), (2, .int (nI p)), (3, .int (nI i))], [.int 0], M62) _
              exact ps_ret rfl rfl (Or.inr ⟨(30, p), by
                  rw [← hs9, maS_st (i := i) (by omega), q38_s]
                  dsimp only
                  rw [if_pos ⟨n_48, hfe⟩], rfl, h64, hF72, hF72.2⟩)
            · skip
              obtain ⟨x75, q63_s, q63_l, rfl, rfl⟩ := q57
              show pl _ _ _ (66, [(4, .int (nI (mkN f n E (by2 f p)))), (0, .ref ac), (1, .ref a), (2, .int (nI p)), (3, .int (nI i))], [.int (nI x75)], M24) _
              refine ps_st (S' := (67, [(4, .int (nI (mkN f n E (by2 f p)))), (0, .ref ac), (1, .ref a), (2, .int (nI p)), (3, .int (nI i))], [.ref ac, .int (nI x75)], M24)) rfl rfl rfl ?_
              refine ps_st (S' := (68, [(4, .int (nI (mkN f n E (by2 f p)))), (0, .ref ac), (1, .ref a), (2, .int (nI p)), (3, .int (nI i))], [.int (nI p), .ref ac, .int (nI x75)], M24)) rfl rfl rfl ?_
              refine pl_call (a := [.ref ac, .int (nI p)]) (rest := [.int (nI x75)]) rfl rfl rfl (dk_behind (f := f) (n := n) (q := q) (ac := ac) (c := c) (b := b) (da := da) (vd := vd) (s1 := (nI s'37)) (p := p) h38 h42 h43 (hn) (by omega)) (fun v76 M77 q78 => ?_)
              obtain ⟨rfl, rfl⟩ := q78
              show pl _ _ _ (71, [(4, .int (nI (mkN f n E (by2 f p)))), (0, .ref ac), (1, .ref a), (2, .int (nI p)), (3, .int (nI i))], [.int (nI (p + 6 + by4 f (p + 2))), .int (nI x75)], M24) _
              refine ps_if2 (S1 := (85, [(0, .ref ac), (1, .ref a), (2, .int (nI p)), (3, .int (nI i)), (4, .int (nI (mkN f n E (by2 f p))))], [], M24)) (S2 := (74, [(4, .int (nI (mkN f n E (by2 f p)))), (0, .ref ac), (1, .ref a), (2, .int (nI p)), (3, .int (nI i))], [], M24)) rfl rfl rfl (fun c_71 => ?_) (fun c_71 => ?_)
              · have c_71 : (nI x75) = (nI (p + 6 + by4 f (p + 2))) := of_decide_eq_true c_71
                have n_71 : x75 = p + 6 + by4 f (p + 2) := (eq_nI (p := x75) (n := p + 6 + by4 f (p + 2)) (by omega) (by omega)).mp c_71
                have hfe : s_fe f (mkN f n E (by2 f p)) (p + 6) (p + 6 + by4 f (p + 2)) = some (p + 6 + by4 f (p + 2)) := by rw [q63_s, n_71]
                have hb8 := (s_fe_in hfe).1
                refine ps_st (S' := (87, [(0, .ref ac), (1, .ref a), (2, .int (nI p)), (3, .int (nI i)), (4, .int (nI (mkN f n E (by2 f p))))], [.int (nI (mkN f n E (by2 f p)))], M24)) rfl rfl rfl ?_
                refine ps_st (S' := (88, [(0, .ref ac), (1, .ref a), (2, .int (nI p)), (3, .int (nI i)), (4, .int (nI (mkN f n E (by2 f p))))], [.int 2, .int (nI (mkN f n E (by2 f p)))], M24)) rfl rfl rfl ?_
                refine ps_if2 (S1 := (102, [(0, .ref ac), (1, .ref a), (2, .int (nI p)), (3, .int (nI i)), (4, .int (nI (mkN f n E (by2 f p))))], [], M24)) (S2 := (91, [(0, .ref ac), (1, .ref a), (2, .int (nI p)), (3, .int (nI i)), (4, .int (nI (mkN f n E (by2 f p))))], [], M24)) rfl rfl rfl (fun c_88 => ?_) (fun c_88 => ?_)
                · have c_88 : ¬ (nI (mkN f n E (by2 f p))) = 2 := of_decide_eq_true c_88
                  have n_88 : ¬ (mkN f n E (by2 f p) = 2) := fun h9 => c_88 ((eq_nI (p := mkN f n E (by2 f p)) (n := 2) (Nat.lt_trans (le_mk _ _ _ _) (by decide)) (by decide)).mpr h9)
                  refine ps_st (S' := (104, [(0, .ref ac), (1, .ref a), (2, .int (nI p)), (3, .int (nI i)), (4, .int (nI (mkN f n E (by2 f p))))], [.int (nI (mkN f n E (by2 f p)))], M24)) rfl rfl rfl ?_
                  refine ps_st (S' := (105, [(0, .ref ac), (1, .ref a), (2, .int (nI p)), (3, .int (nI i)), (4, .int (nI (mkN f n E (by2 f p))))], [.int 3, .int (nI (mkN f n E (by2 f p)))], M24)) rfl rfl rfl ?_
                  refine ps_if2 (S1 := (142, [(0, .ref ac), (1, .ref a), (2, .int (nI p)), (3, .int (nI i))], [], M24)) (S2 := (108, [(0, .ref ac), (1, .ref a), (2, .int (nI p)), (3, .int (nI i)), (4, .int (nI (mkN f n E (by2 f p))))], [], M24)) rfl rfl rfl (fun c_105 => ?_) (fun c_105 => ?_)
                  · have c_105 : ¬ (nI (mkN f n E (by2 f p))) = 3 := of_decide_eq_true c_105
                    have n_105 : ¬ (mkN f n E (by2 f p) = 3) := fun h9 => c_105 ((eq_nI (p := mkN f n E (by2 f p)) (n := 3) (Nat.lt_trans (le_mk _ _ _ _) (by decide)) (by decide)).mpr h9)
                    refine ps_st (S' := (143, [(0, .ref ac), (1, .ref a), (2, .int (nI p)), (3, .int (nI i))], [.ref ac], M24)) rfl rfl rfl ?_
                    refine ps_st (S' := (144, [(0, .ref ac), (1, .ref a), (2, .int (nI p)), (3, .int (nI i))], [.int (nI p), .ref ac], M24)) rfl rfl rfl ?_
                    refine pl_call (a := [.ref ac, .int (nI p)]) (rest := []) rfl rfl rfl (dk_behind (f := f) (n := n) (q := q) (ac := ac) (c := c) (b := b) (da := da) (vd := vd) (s1 := (nI s'37)) (p := p) h38 h42 h43 (hn) (by omega)) (fun v79 M80 q81 => ?_)
                    obtain ⟨rfl, rfl⟩ := q81
                    show pl _ _ _ (147, [(0, .ref ac), (1, .ref a), (2, .int (nI p)), (3, .int (nI i))], [.int (nI (p + 6 + by4 f (p + 2)))], M24) _
                    refine ps_st (S' := (148, [(2, .int (nI (p + 6 + by4 f (p + 2)))), (0, .ref ac), (1, .ref a), (3, .int (nI i))], [], M24)) rfl rfl rfl ?_
                    refine ps_st (S' := (151, [(3, .int ((nI i) + 1)), (2, .int (nI (p + 6 + by4 f (p + 2)))), (0, .ref ac), (1, .ref a)], [], M24)) rfl rfl rfl ?_
                    rw [nI_add1 (p := i) (k := 1) (x := 1) rfl (by omega)]
                    show pl _ _ _ (_, [(3, .int (nI (i + 1))), (2, .int (nI (p + 6 + by4 f (p + 2)))), (0, .ref ac), (1, .ref a)], [], M24) _
                    refine ps_st (S' := (12, [(0, .ref ac), (1, .ref a), (2, .int (nI (p + 6 + by4 f (p + 2)))), (3, .int (nI (i + 1)))], [], M24)) rfl rfl rfl ?_
                    exact ih (i + 1) (p + 6 + by4 f (p + 2)) ((s'37)) (h) (t1) (kn2) (ex2) (cd2) M24 h38 h42 h43 h44 h39 h45 hV48 hF46 (tp47) (by omega) (by omega) (q38_l) (hh) (hq7) (by
                        rw [← hs9, maS_st (i := i) (by omega), q38_s]
                        dsimp only
                        rw [if_neg (fun h => h.2 hfe)]
                        rw [if_neg (by omega)]
                        rw [if_neg (by omega)])
                  · have c_105 : ¬ (¬ (nI (mkN f n E (by2 f p))) = 3) := of_decide_eq_false c_105
                    have n_105 : mkN f n E (by2 f p) = 3 := (eq_nI (p := mkN f n E (by2 f p)) (n := 3) (Nat.lt_trans (le_mk _ _ _ _) (by decide)) (by decide)).mp (Decidable.not_not.mp c_105)
                    refine ps_st (S' := (109, [(0, .ref ac), (1, .ref a), (2, .int (nI p)), (3, .int (nI i)), (4, .int (nI (mkN f n E (by2 f p))))], [.ref a], M24)) rfl rfl rfl ?_
                    refine ps_st (S' := (110, [(0, .ref ac), (1, .ref a), (2, .int (nI p)), (3, .int (nI i)), (4, .int (nI (mkN f n E (by2 f p))))], [.ref ac, .ref a], M24)) rfl rfl rfl ?_
                    refine ps_get (S' := (113, [(0, .ref ac), (1, .ref a), (2, .int (nI p)), (3, .int (nI i)), (4, .int (nI (mkN f n E (by2 f p))))], [.ref b, .ref a], M24)) rfl h38 rfl rfl ?_
                    refine ps_st (S' := (114, [(0, .ref ac), (1, .ref a), (2, .int (nI p)), (3, .int (nI i)), (4, .int (nI (mkN f n E (by2 f p))))], [.int (nI p), .ref b, .ref a], M24)) rfl rfl rfl ?_
                    refine ps_st (S' := (116, [(0, .ref ac), (1, .ref a), (2, .int (nI p)), (3, .int (nI i)), (4, .int (nI (mkN f n E (by2 f p))))], [.int 6, .int (nI p), .ref b, .ref a], M24)) rfl rfl rfl ?_
                    refine ps_st (S' := (117, [(0, .ref ac), (1, .ref a), (2, .int (nI p)), (3, .int (nI i)), (4, .int (nI (mkN f n E (by2 f p))))], [.int ((nI p) + 6), .ref b, .ref a], M24)) rfl rfl rfl ?_
                    rw [nI_add1 (p := p) (k := 6) (x := 6) rfl (by omega)]
                    show pl _ _ _ (_, [(0, .ref ac), (1, .ref a), (2, .int (nI p)), (3, .int (nI i)), (4, .int (nI (mkN f n E (by2 f p))))], [.int (nI (p + 6)), .ref b, .ref a], M24) _
                    refine pl_call (a := [.ref b, .int (nI (p + 6))]) (rest := [.ref a]) rfl rfl rfl (dk_u2 (f := f) (n := n) (b := b) (da := da) (p := (p + 6)) h42 h43 (hn) (by omega)) (fun v82 M83 q84 => ?_)
                    obtain ⟨rfl, rfl⟩ := q84
                    show pl _ _ _ (120, [(0, .ref ac), (1, .ref a), (2, .int (nI p)), (3, .int (nI i)), (4, .int (nI (mkN f n E (by2 f p))))], [.int (nI (by2 f (p + 6))), .ref a], M24) _
                    have hu_117 := by2_lt f (p + 6)
                    refine ps_put (l' := [.int (nI b0), .int (nI (by2 f b0)), .int (nI (by2 f (b0 + 2))), .int (nI (by2 f (b0 + 4))), .int (nI (by2 f (b0 + 6))), .int (nI (b0 + 8)), .int kn2, .int co, .int (nI w), .int (nI (by2 f (p + 6))), cd2]) rfl h45 rfl rfl (fun M85 h86 f87 z88 => ?_)
                    have h89 := (f87 ac (ob_ne h38 h45 (by decide))).trans h38
                    have h90 := (f87 b (ob_ne h42 h45 (by decide))).trans h42
                    have h91 := (f87 da (Ne.symm (ob_ar h45 h43))).trans h43
                    have h92 := (f87 c (ob_ne h44 h45 (by decide))).trans h44
                    have h93 := (f87 vd (ob_ne h39 h45 (by decide))).trans h39
                    have hV94 := hV48.put h45 (by decide) f87 z88
                    have hF95 := hF46.up (Or.inl (by simp)) f87 (by rw [z88]; exact Nat.le_refl _)
                    have tp96 : M85.2.1 = t1 := by rw [z88]; exact tp47
                    show pl _ _ _ (123, [(0, .ref ac), (1, .ref a), (2, .int (nI p)), (3, .int (nI i)), (4, .int (nI (mkN f n E (by2 f p))))], [], M85) _
                    have hb9 := (s_fe_in hfe).2.2.1 (by omega)
                    refine ps_st (S' := (124, [(0, .ref ac), (1, .ref a), (2, .int (nI p)), (3, .int (nI i)), (4, .int (nI (mkN f n E (by2 f p))))], [.ref ac], M85)) rfl rfl rfl ?_
                    refine ps_st (S' := (125, [(0, .ref ac), (1, .ref a), (2, .int (nI p)), (3, .int (nI i)), (4, .int (nI (mkN f n E (by2 f p))))], [.int (nI p), .ref ac], M85)) rfl rfl rfl ?_
                    refine pl_call (a := [.ref ac, .int (nI p)]) (rest := []) rfl rfl rfl (dk_areClasses (f := f) (n := n) (N := N) (q := q) (E := E) (ac := ac) (c := c) (b := b) (da := da) (vd := vd) (fr := fr) (mr := mr) (fa := fa) (ic := ic) (mj := mj) (na := na) (pa := pa) (mi := mi) (ru := ru) (wa := wa) (s1 := (nI s'37)) (k1 := k1) (k2 := k2) (k3 := k3) (k4 := k4) (k5 := k5) (k6 := k6) (k7 := k7) (p := p) h89 h90 h91 (hn) (by omega) (hV94)) (fun v97 M98 q99 => ?_)
                    obtain ⟨rfl, rfl⟩ := q99
                    show pl _ _ _ (128, [(0, .ref ac), (1, .ref a), (2, .int (nI p)), (3, .int (nI i)), (4, .int (nI (mkN f n E (by2 f p))))], [.int (nI (clA f E (p + 8) (by2 f (p + 6)) 0))], M85) _
                    refine ps_if (S1 := (142, [(0, .ref ac), (1, .ref a), (2, .int (nI p)), (3, .int (nI i))], [], M85)) (S2 := (131, [(0, .ref ac), (1, .ref a), (2, .int (nI p)), (3, .int (nI i)), (4, .int (nI (mkN f n E (by2 f p))))], [], M85)) rfl rfl rfl (fun c_128 => ?_) (fun c_128 => ?_)
                    · have c_128 : ¬ (nI (clA f E (p + 8) (by2 f (p + 6)) 0)) = 0 := of_decide_eq_true c_128
                      have n_128 : ¬ (clA f E (p + 8) (by2 f (p + 6)) 0 = 0) := fun h9 => c_128 ((eq_nI (p := clA f E (p + 8) (by2 f (p + 6)) 0) (n := 0) (Nat.lt_trans (le1_cl _ _ _ _ _) (by decide)) (by decide)).mpr h9)
                      refine ps_st (S' := (143, [(0, .ref ac), (1, .ref a), (2, .int (nI p)), (3, .int (nI i))], [.ref ac], M85)) rfl rfl rfl ?_
                      refine ps_st (S' := (144, [(0, .ref ac), (1, .ref a), (2, .int (nI p)), (3, .int (nI i))], [.int (nI p), .ref ac], M85)) rfl rfl rfl ?_
                      refine pl_call (a := [.ref ac, .int (nI p)]) (rest := []) rfl rfl rfl (dk_behind (f := f) (n := n) (q := q) (ac := ac) (c := c) (b := b) (da := da) (vd := vd) (s1 := (nI s'37)) (p := p) h89 h90 h91 (hn) (by omega)) (fun v100 M101 q102 => ?_)
                      obtain ⟨rfl, rfl⟩ := q102
                      show pl _ _ _ (147, [(0, .ref ac), (1, .ref a), (2, .int (nI p)), (3, .int (nI i))], [.int (nI (p + 6 + by4 f (p + 2)))], M85) _
                      refine ps_st (S' := (148, [(2, .int (nI (p + 6 + by4 f (p + 2)))), (0, .ref ac), (1, .ref a), (3, .int (nI i))], [], M85)) rfl rfl rfl ?_
                      refine ps_st (S' := (151, [(3, .int ((nI i) + 1)), (2, .int (nI (p + 6 + by4 f (p + 2)))), (0, .ref ac), (1, .ref a)], [], M85)) rfl rfl rfl ?_
                      rw [nI_add1 (p := i) (k := 1) (x := 1) rfl (by omega)]
                      show pl _ _ _ (_, [(3, .int (nI (i + 1))), (2, .int (nI (p + 6 + by4 f (p + 2)))), (0, .ref ac), (1, .ref a)], [], M85) _
                      refine ps_st (S' := (12, [(0, .ref ac), (1, .ref a), (2, .int (nI (p + 6 + by4 f (p + 2)))), (3, .int (nI (i + 1)))], [], M85)) rfl rfl rfl ?_
                      exact ih (i + 1) (p + 6 + by4 f (p + 2)) ((s'37)) (h) (t1) (kn2) ((nI (by2 f (p + 6)))) (cd2) M85 h89 h90 h91 h92 h93 h86 hV94 hF95 (tp96) (by omega) (by omega) (q38_l) (hh) (hq7) (by
                          rw [← hs9, maS_st (i := i) (by omega), q38_s]
                          dsimp only
                          rw [if_neg (fun h => h.2 hfe)]
                          rw [if_neg (by omega)]
                          rw [if_neg (by omega)])
                    · have c_128 : ¬ (¬ (nI (clA f E (p + 8) (by2 f (p + 6)) 0)) = 0) := of_decide_eq_false c_128
                      have n_128 : clA f E (p + 8) (by2 f (p + 6)) 0 = 0 := (eq_nI (p := clA f E (p + 8) (by2 f (p + 6)) 0) (n := 0) (Nat.lt_trans (le1_cl _ _ _ _ _) (by decide)) (by decide)).mp (Decidable.not_not.mp c_128)
                      refine ps_st (S' := (132, [(0, .ref ac), (1, .ref a), (2, .int (nI p)), (3, .int (nI i)), (4, .int (nI (mkN f n E (by2 f p))))], [.ref ac], M85)) rfl rfl rfl ?_
                      refine ps_get (S' := (135, [(0, .ref ac), (1, .ref a), (2, .int (nI p)), (3, .int (nI i)), (4, .int (nI (mkN f n E (by2 f p))))], [.ref vd], M85)) rfl h89 rfl rfl ?_
                      refine ps_st (S' := (137, [(0, .ref ac), (1, .ref a), (2, .int (nI p)), (3, .int (nI i)), (4, .int (nI (mkN f n E (by2 f p))))], [.int 32, .ref vd], M85)) rfl rfl rfl ?_
                      refine ps_st (S' := (138, [(0, .ref ac), (1, .ref a), (2, .int (nI p)), (3, .int (nI i)), (4, .int (nI (mkN f n E (by2 f p))))], [.int (nI p), .int 32, .ref vd], M85)) rfl rfl rfl ?_
                      refine pl_call (a := [.ref vd, .int 32, .int (nI p)]) (rest := []) rfl rfl rfl (dk_wrong (vd := vd) (ru := ru) (wa := wa) (x1 := 32) (x2 := (nI p)) h93) (fun v103 M104 q105 => ?_)
                      obtain ⟨rfl, h106, f107⟩ := q105
                      have h109 := (f107.1 ac (nin1 (ob_ne h89 h93 (by decide)))).trans h89
                      have h110 := (f107.1 b (nin1 (ob_ne h90 h93 (by decide)))).trans h90
                      have h111 := (f107.1 da (nin1 (Ne.symm (ob_ar h93 h91)))).trans h91
                      have h112 := (f107.1 c (nin1 (ob_ne h92 h93 (by decide)))).trans h92
                      have h113 := (f107.1 a (nin1 (ob_ne h86 h93 (by decide)))).trans h86
                      have hF114 := hF95.trf f107 (by intro z hz; simp only [List.mem_cons, List.not_mem_nil, or_false] at hz ⊢; try omega)
                      have tp115 : M104.2.1 = t1 := by rw [f107.2]; exact tp96
                      have hV116 := hV94.keep f107.gm (n7c h93 (by decide) (n7nil))
                      show pl _ _ _ (141, [(0, .ref ac), (1, .ref a), (2, .int (nI p)), (3, .int (nI i)), (4, .int (nI (mkN f n E (by2 f p))))], [.int 0], M104) _
                      exact ps_ret rfl rfl (Or.inr ⟨(32, p), by
                          rw [← hs9, maS_st (i := i) (by omega), q38_s]
                          dsimp only
                          rw [if_neg (fun h => h.2 hfe)]
                          rw [if_neg (by omega)]
                          rw [if_pos (by omega)], rfl, h106, hF114, hF114.2⟩)
                · have c_88 : ¬ (¬ (nI (mkN f n E (by2 f p))) = 2) := of_decide_eq_false c_88
                  have n_88 : mkN f n E (by2 f p) = 2 := (eq_nI (p := mkN f n E (by2 f p)) (n := 2) (Nat.lt_trans (le_mk _ _ _ _) (by decide)) (by decide)).mp (Decidable.not_not.mp c_88)
                  refine ps_st (S' := (92, [(0, .ref ac), (1, .ref a), (2, .int (nI p)), (3, .int (nI i)), (4, .int (nI (mkN f n E (by2 f p))))], [.ref ac], M24)) rfl rfl rfl ?_
                  refine ps_st (S' := (93, [(0, .ref ac), (1, .ref a), (2, .int (nI p)), (3, .int (nI i)), (4, .int (nI (mkN f n E (by2 f p))))], [.ref a, .ref ac], M24)) rfl rfl rfl ?_
                  refine ps_st (S' := (94, [(0, .ref ac), (1, .ref a), (2, .int (nI p)), (3, .int (nI i)), (4, .int (nI (mkN f n E (by2 f p))))], [.int (nI p), .ref a, .ref ac], M24)) rfl rfl rfl ?_
                  refine pl_call (a := [.ref ac, .ref a, .int (nI p)]) (rest := []) rfl rfl rfl (dk_codeHolds (f := f) (n := n) (N := N) (q := q) (E := E) (ac := ac) (c := c) (b := b) (da := da) (vd := vd) (fr := fr) (mr := mr) (fa := fa) (ic := ic) (mj := mj) (na := na) (pa := pa) (mi := mi) (ru := ru) (wa := wa) (k1 := k1) (k2 := k2) (k3 := k3) (k4 := k4) (k5 := k5) (k6 := k6) (k7 := k7) (a := a) (b0 := b0) (s := (s'37)) (w := w) (p := p) (e := (p + 6 + by4 f (p + 2))) (kn := kn2) (co := co) (ex := ex2) (cd := cd2) h38 h42 h43 h44 h39 h45 (hn) (hmj) (by omega) (hw) (by omega) ((s_fe_in hfe).2.2.2.2.2.2 n_88) (hV48) (by omega) (by omega) (by omega) (by omega) (by omega) (by omega) (by omega)) (fun v117 M118 q119 => ?_)
                  rcases q119 with q119 | q119
                  · skip
                    obtain ⟨e9120, q94_s, rfl, h121, f122, tp123⟩ := q119
                    rw [tp47] at tp123
                    have h124 := (f122.1 b (by omega) (nin3 (ob_ne h42 h38 (by decide)) (ob_ne h42 h39 (by decide)) (ob_ne h42 h45 (by decide)))).trans h42
                    have h125 := (f122.1 da (by omega) (nin3 (Ne.symm (ob_ar h38 h43)) (Ne.symm (ob_ar h39 h43)) (Ne.symm (ob_ar h45 h43)))).trans h43
                    have h126 := (f122.1 c (by omega) (nin3 (ob_ne h44 h38 (by decide)) (ob_ne h44 h39 (by decide)) (ob_ne h44 h45 (by decide)))).trans h44
                    have hF127 := hF46.tr f122 (by intro z hz; simp only [List.mem_cons, List.not_mem_nil, or_false] at hz ⊢; try omega)
                    have hV128 := hV48.keep f122 (n7c h38 (by decide) (n7c h39 (by decide) (n7c h45 (by decide) (n7nil))))
                    show pl _ _ _ (97, [(0, .ref ac), (1, .ref a), (2, .int (nI p)), (3, .int (nI i)), (4, .int (nI (mkN f n E (by2 f p))))], [.int 0], M118) _
                    refine ps_if (S1 := (102, [(0, .ref ac), (1, .ref a), (2, .int (nI p)), (3, .int (nI i)), (4, .int (nI (mkN f n E (by2 f p))))], [], M118)) (S2 := (100, [(0, .ref ac), (1, .ref a), (2, .int (nI p)), (3, .int (nI i)), (4, .int (nI (mkN f n E (by2 f p))))], [], M118)) rfl rfl rfl (fun c_97 => ?_) (fun c_97 => ?_)
                    · exact absurd (of_decide_eq_true c_97) (by decide)
                    refine ps_st (S' := (101, [(0, .ref ac), (1, .ref a), (2, .int (nI p)), (3, .int (nI i)), (4, .int (nI (mkN f n E (by2 f p))))], [.int 0], M118)) rfl rfl rfl ?_
                    exact ps_ret rfl rfl (Or.inr ⟨e9120, by
                        rw [← hs9, maS_st (i := i) (by omega), q38_s]
                        dsimp only
                        rw [if_neg (fun h => h.2 hfe)]
                        rw [if_pos (by omega), q94_s], rfl, h121, hF127, hF127.2⟩)
                  · skip
                    obtain ⟨s'129, q94_s, q94_l, rfl, h130, h131, h132, f133, tp134⟩ := q119
                    rw [tp47] at h132 tp134
                    have h135 := (f133.1 b (by omega) (nin3 (ob_ne h42 h38 (by decide)) (ob_ne h42 h39 (by decide)) (ob_ne h42 h45 (by decide)))).trans h42
                    have h136 := (f133.1 da (by omega) (nin3 (Ne.symm (ob_ar h38 h43)) (Ne.symm (ob_ar h39 h43)) (Ne.symm (ob_ar h45 h43)))).trans h43
                    have h137 := (f133.1 c (by omega) (nin3 (ob_ne h44 h38 (by decide)) (ob_ne h44 h39 (by decide)) (ob_ne h44 h45 (by decide)))).trans h44
                    have hF138 := hF46.tr f133 (by intro z hz; simp only [List.mem_cons, List.not_mem_nil, or_false] at hz ⊢; try omega)
                    have hV139 := hV48.keep f133 (n7c h38 (by decide) (n7c h39 (by decide) (n7c h45 (by decide) (n7nil))))
                    show pl _ _ _ (97, [(0, .ref ac), (1, .ref a), (2, .int (nI p)), (3, .int (nI i)), (4, .int (nI (mkN f n E (by2 f p))))], [.int 1], M118) _
                    refine ps_if (S1 := (102, [(0, .ref ac), (1, .ref a), (2, .int (nI p)), (3, .int (nI i)), (4, .int (nI (mkN f n E (by2 f p))))], [], M118)) (S2 := (100, [(0, .ref ac), (1, .ref a), (2, .int (nI p)), (3, .int (nI i)), (4, .int (nI (mkN f n E (by2 f p))))], [], M118)) rfl rfl rfl (fun c_97 => ?_) (fun c_97 => ?_)
                    rotate_left
                    · exact absurd (by decide) (of_decide_eq_false c_97)
                    refine ps_st (S' := (104, [(0, .ref ac), (1, .ref a), (2, .int (nI p)), (3, .int (nI i)), (4, .int (nI (mkN f n E (by2 f p))))], [.int (nI (mkN f n E (by2 f p)))], M118)) rfl rfl rfl ?_
                    refine ps_st (S' := (105, [(0, .ref ac), (1, .ref a), (2, .int (nI p)), (3, .int (nI i)), (4, .int (nI (mkN f n E (by2 f p))))], [.int 3, .int (nI (mkN f n E (by2 f p)))], M118)) rfl rfl rfl ?_
                    refine ps_if2 (S1 := (142, [(0, .ref ac), (1, .ref a), (2, .int (nI p)), (3, .int (nI i))], [], M118)) (S2 := (108, [(0, .ref ac), (1, .ref a), (2, .int (nI p)), (3, .int (nI i)), (4, .int (nI (mkN f n E (by2 f p))))], [], M118)) rfl rfl rfl (fun c_105 => ?_) (fun c_105 => ?_)
                    rotate_left
                    · exact absurd (show ¬ ((nI (mkN f n E (by2 f p))) = 3) from fun h9 => absurd ((eq_nI (p := mkN f n E (by2 f p)) (n := 3) (Nat.lt_trans (le_mk _ _ _ _) (by decide)) (by decide)).mp h9) (by omega)) (of_decide_eq_false c_105)
                    refine ps_st (S' := (143, [(0, .ref ac), (1, .ref a), (2, .int (nI p)), (3, .int (nI i))], [.ref ac], M118)) rfl rfl rfl ?_
                    refine ps_st (S' := (144, [(0, .ref ac), (1, .ref a), (2, .int (nI p)), (3, .int (nI i))], [.int (nI p), .ref ac], M118)) rfl rfl rfl ?_
                    refine pl_call (a := [.ref ac, .int (nI p)]) (rest := []) rfl rfl rfl (dk_behind (f := f) (n := n) (q := q) (ac := ac) (c := c) (b := b) (da := da) (vd := vd) (s1 := (nI s'129)) (p := p) h130 h135 h136 (hn) (by omega)) (fun v140 M141 q142 => ?_)
                    obtain ⟨rfl, rfl⟩ := q142
                    show pl _ _ _ (147, [(0, .ref ac), (1, .ref a), (2, .int (nI p)), (3, .int (nI i))], [.int (nI (p + 6 + by4 f (p + 2)))], M118) _
                    refine ps_st (S' := (148, [(2, .int (nI (p + 6 + by4 f (p + 2)))), (0, .ref ac), (1, .ref a), (3, .int (nI i))], [], M118)) rfl rfl rfl ?_
                    refine ps_st (S' := (151, [(3, .int ((nI i) + 1)), (2, .int (nI (p + 6 + by4 f (p + 2)))), (0, .ref ac), (1, .ref a)], [], M118)) rfl rfl rfl ?_
                    rw [nI_add1 (p := i) (k := 1) (x := 1) rfl (by omega)]
                    show pl _ _ _ (_, [(3, .int (nI (i + 1))), (2, .int (nI (p + 6 + by4 f (p + 2)))), (0, .ref ac), (1, .ref a)], [], M118) _
                    refine ps_st (S' := (12, [(0, .ref ac), (1, .ref a), (2, .int (nI (p + 6 + by4 f (p + 2)))), (3, .int (nI (i + 1)))], [], M118)) rfl rfl rfl ?_
                    exact ih (i + 1) (p + 6 + by4 f (p + 2)) ((s'129)) (1) (t1 + 2) (kn2) (ex2) (.ref t1) M118 h130 h135 h136 h137 h131 h132 hV139 hF138 (tp134) (by omega) (by omega) (q94_l) (Or.inr ⟨rfl, _, rfl⟩) (hq7) (by
                        rw [← hs9, maS_st (i := i) (by omega), q38_s]
                        dsimp only
                        rw [if_neg (fun h => h.2 hfe)]
                        rw [if_pos (by omega), q94_s])
              · have c_71 : ¬ ((nI x75) = (nI (p + 6 + by4 f (p + 2)))) := of_decide_eq_false c_71
                have n_71 : ¬ (x75 = p + 6 + by4 f (p + 2)) := fun h9 => c_71 ((eq_nI (p := x75) (n := p + 6 + by4 f (p + 2)) (by omega) (by omega)).mpr h9)
                have hfe : ¬ s_fe f (mkN f n E (by2 f p)) (p + 6) (p + 6 + by4 f (p + 2)) = some (p + 6 + by4 f (p + 2)) := by rw [q63_s]; exact fun h => n_71 (Option.some.inj h)
                refine ps_st (S' := (75, [(4, .int (nI (mkN f n E (by2 f p)))), (0, .ref ac), (1, .ref a), (2, .int (nI p)), (3, .int (nI i))], [.ref ac], M24)) rfl rfl rfl ?_
                refine ps_get (S' := (78, [(4, .int (nI (mkN f n E (by2 f p)))), (0, .ref ac), (1, .ref a), (2, .int (nI p)), (3, .int (nI i))], [.ref vd], M24)) rfl h38 rfl rfl ?_
                refine ps_st (S' := (80, [(4, .int (nI (mkN f n E (by2 f p)))), (0, .ref ac), (1, .ref a), (2, .int (nI p)), (3, .int (nI i))], [.int 30, .ref vd], M24)) rfl rfl rfl ?_
                refine ps_st (S' := (81, [(4, .int (nI (mkN f n E (by2 f p)))), (0, .ref ac), (1, .ref a), (2, .int (nI p)), (3, .int (nI i))], [.int (nI p), .int 30, .ref vd], M24)) rfl rfl rfl ?_
                refine pl_call (a := [.ref vd, .int 30, .int (nI p)]) (rest := []) rfl rfl rfl (dk_wrong (vd := vd) (ru := ru) (wa := wa) (x1 := 30) (x2 := (nI p)) h39) (fun v143 M144 q145 => ?_)
                obtain ⟨rfl, h146, f147⟩ := q145
                have h149 := (f147.1 ac (nin1 (ob_ne h38 h39 (by decide)))).trans h38
                have h150 := (f147.1 b (nin1 (ob_ne h42 h39 (by decide)))).trans h42
                have h151 := (f147.1 da (nin1 (Ne.symm (ob_ar h39 h43)))).trans h43
                have h152 := (f147.1 c (nin1 (ob_ne h44 h39 (by decide)))).trans h44
                have h153 := (f147.1 a (nin1 (ob_ne h45 h39 (by decide)))).trans h45
                have hF154 := hF46.trf f147 (by intro z hz; simp only [List.mem_cons, List.not_mem_nil, or_false] at hz ⊢; try omega)
                have tp155 : M144.2.1 = t1 := by rw [f147.2]; exact tp47
                have hV156 := hV48.keep f147.gm (n7c h39 (by decide) (n7nil))
                show pl _ _ _ (84, [(4, .int (nI (mkN f n E (by2 f p)))), (0, .ref ac), (1, .ref a), (2, .int (nI p)), (3, .int (nI i))], [.int 0], M144) _
                exact ps_ret rfl rfl (Or.inr ⟨(30, p), by
                    rw [← hs9, maS_st (i := i) (by omega), q38_s]
                    dsimp only
                    rw [if_pos ⟨n_48, hfe⟩], rfl, h146, hF154, hF154.2⟩)
  refine ps_st (S' := (1, [(0, .ref ac), (1, .ref a)], [.ref ac], M)) rfl rfl rfl ?_
  refine ps_st (S' := (2, [(0, .ref ac), (1, .ref a)], [.int 0, .ref ac], M)) rfl rfl rfl ?_
  refine ps_put (l' := [.ref c, .ref b, .ref q, .ref vd, .int 0]) rfl h_ac rfl rfl (fun M157 h158 f159 z160 => ?_)
  have h161 := (f159 b (ob_ne h_b h_ac (by decide))).trans h_b
  have h162 := (f159 da (Ne.symm (ob_ar h_ac h_da))).trans h_da
  have h163 := (f159 c (ob_ne h_c h_ac (by decide))).trans h_c
  have h164 := (f159 vd (ob_ne h_vd h_ac (by decide))).trans h_vd
  have h165 := (f159 a (ob_ne h_a h_ac (by decide))).trans h_a
  have hV166 := hV.put h_ac (by decide) f159 z160
  have hF167 := hF.up (Or.inl (by simp)) f159 (by rw [z160]; exact Nat.le_refl _)
  have tp168 : M157.2.1 = z0 := by rw [z160]; exact tp0
  show pl _ _ _ (5, [(0, .ref ac), (1, .ref a)], [], M157) _
  refine ps_st (S' := (6, [(0, .ref ac), (1, .ref a)], [.ref a], M157)) rfl rfl rfl ?_
  refine ps_get (S' := (9, [(0, .ref ac), (1, .ref a)], [.int (nI (b0 + 8))], M157)) rfl h165 rfl rfl ?_
  refine ps_st (S' := (10, [(2, .int (nI (b0 + 8))), (0, .ref ac), (1, .ref a)], [], M157)) rfl rfl rfl ?_
  refine ps_st (S' := (11, [(2, .int (nI (b0 + 8))), (0, .ref ac), (1, .ref a)], [.int 0], M157)) rfl rfl rfl ?_
  refine ps_st (S' := (12, [(0, .ref ac), (1, .ref a), (2, .int (nI (b0 + 8))), (3, .int 0)], [], M157)) rfl rfl rfl ?_
  exact (LL kf) (0) (b0 + 8) (0) (0) (z0) (kn) (ex) (.null) M157 h158 h161 h162 h163 h164 h165 hV166 hF167 (tp168) (Nat.le_refl _) (by omega) (by decide) (Or.inl ⟨rfl, rfl⟩) (hat) (rfl)
set_option maxHeartbeats 4000000 in
theorem dk_bitCountN {g : xe_G} {M : mi_H} {y : Nat}  (hy : y < 2048) : pt (mT g) 258 [.int (nI y)] M (fun v M' => (v = some (.int (nI (popN y))) ∧ M = M')) := by
  refine pt_in (b := mb_258 g) rfl (fun kf => ?_)
  show pl (mT g) kf (mb_258 g).2 (0, [(0, .int (nI y))], [], M) _
  refine ps_st (S' := (1, [(0, .int (nI y))], [.int (nI y)], M)) rfl rfl rfl ?_
  refine ps_st (S' := (2, [(0, .int (nI y))], [.int (nI y), .int (nI y)], M)) rfl rfl rfl ?_
  refine ps_st (S' := (3, [(0, .int (nI y))], [.int 1, .int (nI y), .int (nI y)], M)) rfl rfl rfl ?_
  refine ps_st (S' := (4, [(0, .int (nI y))], [.int (((nI y).toUInt32 >>> ((1 : Int32).toUInt32 &&& Int32.toUInt32 31)).toInt32), .int (nI y)], M)) rfl rfl rfl ?_
  refine ps_st (S' := (7, [(0, .int (nI y))], [.int 1431655765, .int (((nI y).toUInt32 >>> ((1 : Int32).toUInt32 &&& Int32.toUInt32 31)).toInt32), .int (nI y)], M)) rfl rfl rfl ?_
  refine ps_st (S' := (8, [(0, .int (nI y))], [.int ((((nI y).toUInt32 >>> ((1 : Int32).toUInt32 &&& Int32.toUInt32 31)).toInt32) &&& 1431655765), .int (nI y)], M)) rfl rfl rfl ?_
  refine ps_st (S' := (9, [(0, .int (nI y))], [.int ((nI y) - ((((nI y).toUInt32 >>> ((1 : Int32).toUInt32 &&& Int32.toUInt32 31)).toInt32) &&& 1431655765))], M)) rfl rfl rfl ?_
  refine ps_st (S' := (10, [(0, .int ((nI y) - ((((nI y).toUInt32 >>> ((1 : Int32).toUInt32 &&& Int32.toUInt32 31)).toInt32) &&& 1431655765)))], [], M)) rfl rfl rfl ?_
  refine ps_st (S' := (11, [(0, .int ((nI y) - ((((nI y).toUInt32 >>> ((1 : Int32).toUInt32 &&& Int32.toUInt32 31)).toInt32) &&& 1431655765)))], [.int ((nI y) - ((((nI y).toUInt32 >>> ((1 : Int32).toUInt32 &&& Int32.toUInt32 31)).toInt32) &&& 1431655765))], M)) rfl rfl rfl ?_
  refine ps_st (S' := (14, [(0, .int ((nI y) - ((((nI y).toUInt32 >>> ((1 : Int32).toUInt32 &&& Int32.toUInt32 31)).toInt32) &&& 1431655765)))], [.int 858993459, .int ((nI y) - ((((nI y).toUInt32 >>> ((1 : Int32).toUInt32 &&& Int32.toUInt32 31)).toInt32) &&& 1431655765))], M)) rfl rfl rfl ?_
  refine ps_st (S' := (15, [(0, .int ((nI y) - ((((nI y).toUInt32 >>> ((1 : Int32).toUInt32 &&& Int32.toUInt32 31)).toInt32) &&& 1431655765)))], [.int (((nI y) - ((((nI y).toUInt32 >>> ((1 : Int32).toUInt32 &&& Int32.toUInt32 31)).toInt32) &&& 1431655765)) &&& 858993459)], M)) rfl rfl rfl ?_
  refine ps_st (S' := (16, [(0, .int ((nI y) - ((((nI y).toUInt32 >>> ((1 : Int32).toUInt32 &&& Int32.toUInt32 31)).toInt32) &&& 1431655765)))], [.int ((nI y) - ((((nI y).toUInt32 >>> ((1 : Int32).toUInt32 &&& Int32.toUInt32 31)).toInt32) &&& 1431655765)), .int (((nI y) - ((((nI y).toUInt32 >>> ((1 : Int32).toUInt32 &&& Int32.toUInt32 31)).toInt32) &&& 1431655765)) &&& 858993459)], M)) rfl rfl rfl ?_
  refine ps_st (S' := (17, [(0, .int ((nI y) - ((((nI y).toUInt32 >>> ((1 : Int32).toUInt32 &&& Int32.toUInt32 31)).toInt32) &&& 1431655765)))], [.int 2, .int ((nI y) - ((((nI y).toUInt32 >>> ((1 : Int32).toUInt32 &&& Int32.toUInt32 31)).toInt32) &&& 1431655765)), .int (((nI y) - ((((nI y).toUInt32 >>> ((1 : Int32).toUInt32 &&& Int32.toUInt32 31)).toInt32) &&& 1431655765)) &&& 858993459)], M)) rfl rfl rfl ?_
  refine ps_st (S' := (18, [(0, .int ((nI y) - ((((nI y).toUInt32 >>> ((1 : Int32).toUInt32 &&& Int32.toUInt32 31)).toInt32) &&& 1431655765)))], [.int ((((nI y) - ((((nI y).toUInt32 >>> ((1 : Int32).toUInt32 &&& Int32.toUInt32 31)).toInt32) &&& 1431655765)).toUInt32 >>> ((2 : Int32).toUInt32 &&& Int32.toUInt32 31)).toInt32), .int (((nI y) - ((((nI y).toUInt32 >>> ((1 : Int32).toUInt32 &&& Int32.toUInt32 31)).toInt32) &&& 1431655765)) &&& 858993459)], M)) rfl rfl rfl ?_
  refine ps_st (S' := (21, [(0, .int ((nI y) - ((((nI y).toUInt32 >>> ((1 : Int32).toUInt32 &&& Int32.toUInt32 31)).toInt32) &&& 1431655765)))], [.int 858993459, .int ((((nI y) - ((((nI y).toUInt32 >>> ((1 : Int32).toUInt32 &&& Int32.toUInt32 31)).toInt32) &&& 1431655765)).toUInt32 >>> ((2 : Int32).toUInt32 &&& Int32.toUInt32 31)).toInt32), .int (((nI y) - ((((nI y).toUInt32 >>> ((1 : Int32).toUInt32 &&& Int32.toUInt32 31)).toInt32) &&& 1431655765)) &&& 858993459)], M)) rfl rfl rfl ?_
  refine ps_st (S' := (22, [(0, .int ((nI y) - ((((nI y).toUInt32 >>> ((1 : Int32).toUInt32 &&& Int32.toUInt32 31)).toInt32) &&& 1431655765)))], [.int (((((nI y) - ((((nI y).toUInt32 >>> ((1 : Int32).toUInt32 &&& Int32.toUInt32 31)).toInt32) &&& 1431655765)).toUInt32 >>> ((2 : Int32).toUInt32 &&& Int32.toUInt32 31)).toInt32) &&& 858993459), .int (((nI y) - ((((nI y).toUInt32 >>> ((1 : Int32).toUInt32 &&& Int32.toUInt32 31)).toInt32) &&& 1431655765)) &&& 858993459)], M)) rfl rfl rfl ?_
  refine ps_st (S' := (23, [(0, .int ((nI y) - ((((nI y).toUInt32 >>> ((1 : Int32).toUInt32 &&& Int32.toUInt32 31)).toInt32) &&& 1431655765)))], [.int ((((nI y) - ((((nI y).toUInt32 >>> ((1 : Int32).toUInt32 &&& Int32.toUInt32 31)).toInt32) &&& 1431655765)) &&& 858993459) + (((((nI y) - ((((nI y).toUInt32 >>> ((1 : Int32).toUInt32 &&& Int32.toUInt32 31)).toInt32) &&& 1431655765)).toUInt32 >>> ((2 : Int32).toUInt32 &&& Int32.toUInt32 31)).toInt32) &&& 858993459))], M)) rfl rfl rfl ?_
  refine ps_st (S' := (24, [(0, .int ((((nI y) - ((((nI y).toUInt32 >>> ((1 : Int32).toUInt32 &&& Int32.toUInt32 31)).toInt32) &&& 1431655765)) &&& 858993459) + (((((nI y) - ((((nI y).toUInt32 >>> ((1 : Int32).toUInt32 &&& Int32.toUInt32 31)).toInt32) &&& 1431655765)).toUInt32 >>> ((2 : Int32).toUInt32 &&& Int32.toUInt32 31)).toInt32) &&& 858993459)))], [], M)) rfl rfl rfl ?_
  refine ps_st (S' := (25, [(0, .int ((((nI y) - ((((nI y).toUInt32 >>> ((1 : Int32).toUInt32 &&& Int32.toUInt32 31)).toInt32) &&& 1431655765)) &&& 858993459) + (((((nI y) - ((((nI y).toUInt32 >>> ((1 : Int32).toUInt32 &&& Int32.toUInt32 31)).toInt32) &&& 1431655765)).toUInt32 >>> ((2 : Int32).toUInt32 &&& Int32.toUInt32 31)).toInt32) &&& 858993459)))], [.int ((((nI y) - ((((nI y).toUInt32 >>> ((1 : Int32).toUInt32 &&& Int32.toUInt32 31)).toInt32) &&& 1431655765)) &&& 858993459) + (((((nI y) - ((((nI y).toUInt32 >>> ((1 : Int32).toUInt32 &&& Int32.toUInt32 31)).toInt32) &&& 1431655765)).toUInt32 >>> ((2 : Int32).toUInt32 &&& Int32.toUInt32 31)).toInt32) &&& 858993459))], M)) rfl rfl rfl ?_
  refine ps_st (S' := (26, [(0, .int ((((nI y) - ((((nI y).toUInt32 >>> ((1 : Int32).toUInt32 &&& Int32.toUInt32 31)).toInt32) &&& 1431655765)) &&& 858993459) + (((((nI y) - ((((nI y).toUInt32 >>> ((1 : Int32).toUInt32 &&& Int32.toUInt32 31)).toInt32) &&& 1431655765)).toUInt32 >>> ((2 : Int32).toUInt32 &&& Int32.toUInt32 31)).toInt32) &&& 858993459)))], [.int ((((nI y) - ((((nI y).toUInt32 >>> ((1 : Int32).toUInt32 &&& Int32.toUInt32 31)).toInt32) &&& 1431655765)) &&& 858993459) + (((((nI y) - ((((nI y).toUInt32 >>> ((1 : Int32).toUInt32 &&& Int32.toUInt32 31)).toInt32) &&& 1431655765)).toUInt32 >>> ((2 : Int32).toUInt32 &&& Int32.toUInt32 31)).toInt32) &&& 858993459)), .int ((((nI y) - ((((nI y).toUInt32 >>> ((1 : Int32).toUInt32 &&& Int32.toUInt32 31)).toInt32) &&& 1431655765)) &&& 858993459) + (((((nI y) - ((((nI y).toUInt32 >>> ((1 : Int32).toUInt32 &&& Int32.toUInt32 31)).toInt32) &&& 1431655765)).toUInt32 >>> ((2 : Int32).toUInt32 &&& Int32.toUInt32 31)).toInt32) &&& 858993459))], M)) rfl rfl rfl ?_
  refine ps_st (S' := (27, [(0, .int ((((nI y) - ((((nI y).toUInt32 >>> ((1 : Int32).toUInt32 &&& Int32.toUInt32 31)).toInt32) &&& 1431655765)) &&& 858993459) + (((((nI y) - ((((nI y).toUInt32 >>> ((1 : Int32).toUInt32 &&& Int32.toUInt32 31)).toInt32) &&& 1431655765)).toUInt32 >>> ((2 : Int32).toUInt32 &&& Int32.toUInt32 31)).toInt32) &&& 858993459)))], [.int 4, .int ((((nI y) - ((((nI y).toUInt32 >>> ((1 : Int32).toUInt32 &&& Int32.toUInt32 31)).toInt32) &&& 1431655765)) &&& 858993459) + (((((nI y) - ((((nI y).toUInt32 >>> ((1 : Int32).toUInt32 &&& Int32.toUInt32 31)).toInt32) &&& 1431655765)).toUInt32 >>> ((2 : Int32).toUInt32 &&& Int32.toUInt32 31)).toInt32) &&& 858993459)), .int ((((nI y) - ((((nI y).toUInt32 >>> ((1 : Int32).toUInt32 &&& Int32.toUInt32 31)).toInt32) &&& 1431655765)) &&& 858993459) + (((((nI y) - ((((nI y).toUInt32 >>> ((1 : Int32).toUInt32 &&& Int32.toUInt32 31)).toInt32) &&& 1431655765)).toUInt32 >>> ((2 : Int32).toUInt32 &&& Int32.toUInt32 31)).toInt32) &&& 858993459))], M)) rfl rfl rfl ?_
  refine ps_st (S' := (28, [(0, .int ((((nI y) - ((((nI y).toUInt32 >>> ((1 : Int32).toUInt32 &&& Int32.toUInt32 31)).toInt32) &&& 1431655765)) &&& 858993459) + (((((nI y) - ((((nI y).toUInt32 >>> ((1 : Int32).toUInt32 &&& Int32.toUInt32 31)).toInt32) &&& 1431655765)).toUInt32 >>> ((2 : Int32).toUInt32 &&& Int32.toUInt32 31)).toInt32) &&& 858993459)))], [.int ((((((nI y) - ((((nI y).toUInt32 >>> ((1 : Int32).toUInt32 &&& Int32.toUInt32 31)).toInt32) &&& 1431655765)) &&& 858993459) + (((((nI y) - ((((nI y).toUInt32 >>> ((1 : Int32).toUInt32 &&& Int32.toUInt32 31)).toInt32) &&& 1431655765)).toUInt32 >>> ((2 : Int32).toUInt32 &&& Int32.toUInt32 31)).toInt32) &&& 858993459)).toUInt32 >>> ((4 : Int32).toUInt32 &&& Int32.toUInt32 31)).toInt32), .int ((((nI y) - ((((nI y).toUInt32 >>> ((1 : Int32).toUInt32 &&& Int32.toUInt32 31)).toInt32) &&& 1431655765)) &&& 858993459) + (((((nI y) - ((((nI y).toUInt32 >>> ((1 : Int32).toUInt32 &&& Int32.toUInt32 31)).toInt32) &&& 1431655765)).toUInt32 >>> ((2 : Int32).toUInt32 &&& Int32.toUInt32 31)).toInt32) &&& 858993459))], M)) rfl rfl rfl ?_
  refine ps_st (S' := (29, [(0, .int ((((nI y) - ((((nI y).toUInt32 >>> ((1 : Int32).toUInt32 &&& Int32.toUInt32 31)).toInt32) &&& 1431655765)) &&& 858993459) + (((((nI y) - ((((nI y).toUInt32 >>> ((1 : Int32).toUInt32 &&& Int32.toUInt32 31)).toInt32) &&& 1431655765)).toUInt32 >>> ((2 : Int32).toUInt32 &&& Int32.toUInt32 31)).toInt32) &&& 858993459)))], [.int (((((nI y) - ((((nI y).toUInt32 >>> ((1 : Int32).toUInt32 &&& Int32.toUInt32 31)).toInt32) &&& 1431655765)) &&& 858993459) + (((((nI y) - ((((nI y).toUInt32 >>> ((1 : Int32).toUInt32 &&& Int32.toUInt32 31)).toInt32) &&& 1431655765)).toUInt32 >>> ((2 : Int32).toUInt32 &&& Int32.toUInt32 31)).toInt32) &&& 858993459)) + ((((((nI y) - ((((nI y).toUInt32 >>> ((1 : Int32).toUInt32 &&& Int32.toUInt32 31)).toInt32) &&& 1431655765)) &&& 858993459) + (((((nI y) - ((((nI y).toUInt32 >>> ((1 : Int32).toUInt32 &&& Int32.toUInt32 31)).toInt32) &&& 1431655765)).toUInt32 >>> ((2 : Int32).toUInt32 &&& Int32.toUInt32 31)).toInt32) &&& 858993459)).toUInt32 >>> ((4 : Int32).toUInt32 &&& Int32.toUInt32 31)).toInt32))], M)) rfl rfl rfl ?_
  refine ps_st (S' := (32, [(0, .int ((((nI y) - ((((nI y).toUInt32 >>> ((1 : Int32).toUInt32 &&& Int32.toUInt32 31)).toInt32) &&& 1431655765)) &&& 858993459) + (((((nI y) - ((((nI y).toUInt32 >>> ((1 : Int32).toUInt32 &&& Int32.toUInt32 31)).toInt32) &&& 1431655765)).toUInt32 >>> ((2 : Int32).toUInt32 &&& Int32.toUInt32 31)).toInt32) &&& 858993459)))], [.int 252645135, .int (((((nI y) - ((((nI y).toUInt32 >>> ((1 : Int32).toUInt32 &&& Int32.toUInt32 31)).toInt32) &&& 1431655765)) &&& 858993459) + (((((nI y) - ((((nI y).toUInt32 >>> ((1 : Int32).toUInt32 &&& Int32.toUInt32 31)).toInt32) &&& 1431655765)).toUInt32 >>> ((2 : Int32).toUInt32 &&& Int32.toUInt32 31)).toInt32) &&& 858993459)) + ((((((nI y) - ((((nI y).toUInt32 >>> ((1 : Int32).toUInt32 &&& Int32.toUInt32 31)).toInt32) &&& 1431655765)) &&& 858993459) + (((((nI y) - ((((nI y).toUInt32 >>> ((1 : Int32).toUInt32 &&& Int32.toUInt32 31)).toInt32) &&& 1431655765)).toUInt32 >>> ((2 : Int32).toUInt32 &&& Int32.toUInt32 31)).toInt32) &&& 858993459)).toUInt32 >>> ((4 : Int32).toUInt32 &&& Int32.toUInt32 31)).toInt32))], M)) rfl rfl rfl ?_
  refine ps_st (S' := (33, [(0, .int ((((nI y) - ((((nI y).toUInt32 >>> ((1 : Int32).toUInt32 &&& Int32.toUInt32 31)).toInt32) &&& 1431655765)) &&& 858993459) + (((((nI y) - ((((nI y).toUInt32 >>> ((1 : Int32).toUInt32 &&& Int32.toUInt32 31)).toInt32) &&& 1431655765)).toUInt32 >>> ((2 : Int32).toUInt32 &&& Int32.toUInt32 31)).toInt32) &&& 858993459)))], [.int ((((((nI y) - ((((nI y).toUInt32 >>> ((1 : Int32).toUInt32 &&& Int32.toUInt32 31)).toInt32) &&& 1431655765)) &&& 858993459) + (((((nI y) - ((((nI y).toUInt32 >>> ((1 : Int32).toUInt32 &&& Int32.toUInt32 31)).toInt32) &&& 1431655765)).toUInt32 >>> ((2 : Int32).toUInt32 &&& Int32.toUInt32 31)).toInt32) &&& 858993459)) + ((((((nI y) - ((((nI y).toUInt32 >>> ((1 : Int32).toUInt32 &&& Int32.toUInt32 31)).toInt32) &&& 1431655765)) &&& 858993459) + (((((nI y) - ((((nI y).toUInt32 >>> ((1 : Int32).toUInt32 &&& Int32.toUInt32 31)).toInt32) &&& 1431655765)).toUInt32 >>> ((2 : Int32).toUInt32 &&& Int32.toUInt32 31)).toInt32) &&& 858993459)).toUInt32 >>> ((4 : Int32).toUInt32 &&& Int32.toUInt32 31)).toInt32)) &&& 252645135)], M)) rfl rfl rfl ?_
  refine ps_st (S' := (34, [(0, .int ((((((nI y) - ((((nI y).toUInt32 >>> ((1 : Int32).toUInt32 &&& Int32.toUInt32 31)).toInt32) &&& 1431655765)) &&& 858993459) + (((((nI y) - ((((nI y).toUInt32 >>> ((1 : Int32).toUInt32 &&& Int32.toUInt32 31)).toInt32) &&& 1431655765)).toUInt32 >>> ((2 : Int32).toUInt32 &&& Int32.toUInt32 31)).toInt32) &&& 858993459)) + ((((((nI y) - ((((nI y).toUInt32 >>> ((1 : Int32).toUInt32 &&& Int32.toUInt32 31)).toInt32) &&& 1431655765)) &&& 858993459) + (((((nI y) - ((((nI y).toUInt32 >>> ((1 : Int32).toUInt32 &&& Int32.toUInt32 31)).toInt32) &&& 1431655765)).toUInt32 >>> ((2 : Int32).toUInt32 &&& Int32.toUInt32 31)).toInt32) &&& 858993459)).toUInt32 >>> ((4 : Int32).toUInt32 &&& Int32.toUInt32 31)).toInt32)) &&& 252645135))], [], M)) rfl rfl rfl ?_
  refine ps_st (S' := (35, [(0, .int ((((((nI y) - ((((nI y).toUInt32 >>> ((1 : Int32).toUInt32 &&& Int32.toUInt32 31)).toInt32) &&& 1431655765)) &&& 858993459) + (((((nI y) - ((((nI y).toUInt32 >>> ((1 : Int32).toUInt32 &&& Int32.toUInt32 31)).toInt32) &&& 1431655765)).toUInt32 >>> ((2 : Int32).toUInt32 &&& Int32.toUInt32 31)).toInt32) &&& 858993459)) + ((((((nI y) - ((((nI y).toUInt32 >>> ((1 : Int32).toUInt32 &&& Int32.toUInt32 31)).toInt32) &&& 1431655765)) &&& 858993459) + (((((nI y) - ((((nI y).toUInt32 >>> ((1 : Int32).toUInt32 &&& Int32.toUInt32 31)).toInt32) &&& 1431655765)).toUInt32 >>> ((2 : Int32).toUInt32 &&& Int32.toUInt32 31)).toInt32) &&& 858993459)).toUInt32 >>> ((4 : Int32).toUInt32 &&& Int32.toUInt32 31)).toInt32)) &&& 252645135))], [.int ((((((nI y) - ((((nI y).toUInt32 >>> ((1 : Int32).toUInt32 &&& Int32.toUInt32 31)).toInt32) &&& 1431655765)) &&& 858993459) + (((((nI y) - ((((nI y).toUInt32 >>> ((1 : Int32).toUInt32 &&& Int32.toUInt32 31)).toInt32) &&& 1431655765)).toUInt32 >>> ((2 : Int32).toUInt32 &&& Int32.toUInt32 31)).toInt32) &&& 858993459)) + ((((((nI y) - ((((nI y).toUInt32 >>> ((1 : Int32).toUInt32 &&& Int32.toUInt32 31)).toInt32) &&& 1431655765)) &&& 858993459) + (((((nI y) - ((((nI y).toUInt32 >>> ((1 : Int32).toUInt32 &&& Int32.toUInt32 31)).toInt32) &&& 1431655765)).toUInt32 >>> ((2 : Int32).toUInt32 &&& Int32.toUInt32 31)).toInt32) &&& 858993459)).toUInt32 >>> ((4 : Int32).toUInt32 &&& Int32.toUInt32 31)).toInt32)) &&& 252645135)], M)) rfl rfl rfl ?_
  refine ps_st (S' := (36, [(0, .int ((((((nI y) - ((((nI y).toUInt32 >>> ((1 : Int32).toUInt32 &&& Int32.toUInt32 31)).toInt32) &&& 1431655765)) &&& 858993459) + (((((nI y) - ((((nI y).toUInt32 >>> ((1 : Int32).toUInt32 &&& Int32.toUInt32 31)).toInt32) &&& 1431655765)).toUInt32 >>> ((2 : Int32).toUInt32 &&& Int32.toUInt32 31)).toInt32) &&& 858993459)) + ((((((nI y) - ((((nI y).toUInt32 >>> ((1 : Int32).toUInt32 &&& Int32.toUInt32 31)).toInt32) &&& 1431655765)) &&& 858993459) + (((((nI y) - ((((nI y).toUInt32 >>> ((1 : Int32).toUInt32 &&& Int32.toUInt32 31)).toInt32) &&& 1431655765)).toUInt32 >>> ((2 : Int32).toUInt32 &&& Int32.toUInt32 31)).toInt32) &&& 858993459)).toUInt32 >>> ((4 : Int32).toUInt32 &&& Int32.toUInt32 31)).toInt32)) &&& 252645135))], [.int ((((((nI y) - ((((nI y).toUInt32 >>> ((1 : Int32).toUInt32 &&& Int32.toUInt32 31)).toInt32) &&& 1431655765)) &&& 858993459) + (((((nI y) - ((((nI y).toUInt32 >>> ((1 : Int32).toUInt32 &&& Int32.toUInt32 31)).toInt32) &&& 1431655765)).toUInt32 >>> ((2 : Int32).toUInt32 &&& Int32.toUInt32 31)).toInt32) &&& 858993459)) + ((((((nI y) - ((((nI y).toUInt32 >>> ((1 : Int32).toUInt32 &&& Int32.toUInt32 31)).toInt32) &&& 1431655765)) &&& 858993459) + (((((nI y) - ((((nI y).toUInt32 >>> ((1 : Int32).toUInt32 &&& Int32.toUInt32 31)).toInt32) &&& 1431655765)).toUInt32 >>> ((2 : Int32).toUInt32 &&& Int32.toUInt32 31)).toInt32) &&& 858993459)).toUInt32 >>> ((4 : Int32).toUInt32 &&& Int32.toUInt32 31)).toInt32)) &&& 252645135), .int ((((((nI y) - ((((nI y).toUInt32 >>> ((1 : Int32).toUInt32 &&& Int32.toUInt32 31)).toInt32) &&& 1431655765)) &&& 858993459) + (((((nI y) - ((((nI y).toUInt32 >>> ((1 : Int32).toUInt32 &&& Int32.toUInt32 31)).toInt32) &&& 1431655765)).toUInt32 >>> ((2 : Int32).toUInt32 &&& Int32.toUInt32 31)).toInt32) &&& 858993459)) + ((((((nI y) - ((((nI y).toUInt32 >>> ((1 : Int32).toUInt32 &&& Int32.toUInt32 31)).toInt32) &&& 1431655765)) &&& 858993459) + (((((nI y) - ((((nI y).toUInt32 >>> ((1 : Int32).toUInt32 &&& Int32.toUInt32 31)).toInt32) &&& 1431655765)).toUInt32 >>> ((2 : Int32).toUInt32 &&& Int32.toUInt32 31)).toInt32) &&& 858993459)).toUInt32 >>> ((4 : Int32).toUInt32 &&& Int32.toUInt32 31)).toInt32)) &&& 252645135)], M)) rfl rfl rfl ?_
  refine ps_st (S' := (38, [(0, .int ((((((nI y) - ((((nI y).toUInt32 >>> ((1 : Int32).toUInt32 &&& Int32.toUInt32 31)).toInt32) &&& 1431655765)) &&& 858993459) + (((((nI y) - ((((nI y).toUInt32 >>> ((1 : Int32).toUInt32 &&& Int32.toUInt32 31)).toInt32) &&& 1431655765)).toUInt32 >>> ((2 : Int32).toUInt32 &&& Int32.toUInt32 31)).toInt32) &&& 858993459)) + ((((((nI y) - ((((nI y).toUInt32 >>> ((1 : Int32).toUInt32 &&& Int32.toUInt32 31)).toInt32) &&& 1431655765)) &&& 858993459) + (((((nI y) - ((((nI y).toUInt32 >>> ((1 : Int32).toUInt32 &&& Int32.toUInt32 31)).toInt32) &&& 1431655765)).toUInt32 >>> ((2 : Int32).toUInt32 &&& Int32.toUInt32 31)).toInt32) &&& 858993459)).toUInt32 >>> ((4 : Int32).toUInt32 &&& Int32.toUInt32 31)).toInt32)) &&& 252645135))], [.int 8, .int ((((((nI y) - ((((nI y).toUInt32 >>> ((1 : Int32).toUInt32 &&& Int32.toUInt32 31)).toInt32) &&& 1431655765)) &&& 858993459) + (((((nI y) - ((((nI y).toUInt32 >>> ((1 : Int32).toUInt32 &&& Int32.toUInt32 31)).toInt32) &&& 1431655765)).toUInt32 >>> ((2 : Int32).toUInt32 &&& Int32.toUInt32 31)).toInt32) &&& 858993459)) + ((((((nI y) - ((((nI y).toUInt32 >>> ((1 : Int32).toUInt32 &&& Int32.toUInt32 31)).toInt32) &&& 1431655765)) &&& 858993459) + (((((nI y) - ((((nI y).toUInt32 >>> ((1 : Int32).toUInt32 &&& Int32.toUInt32 31)).toInt32) &&& 1431655765)).toUInt32 >>> ((2 : Int32).toUInt32 &&& Int32.toUInt32 31)).toInt32) &&& 858993459)).toUInt32 >>> ((4 : Int32).toUInt32 &&& Int32.toUInt32 31)).toInt32)) &&& 252645135), .int ((((((nI y) - ((((nI y).toUInt32 >>> ((1 : Int32).toUInt32 &&& Int32.toUInt32 31)).toInt32) &&& 1431655765)) &&& 858993459) + (((((nI y) - ((((nI y).toUInt32 >>> ((1 : Int32).toUInt32 &&& Int32.toUInt32 31)).toInt32) &&& 1431655765)).toUInt32 >>> ((2 : Int32).toUInt32 &&& Int32.toUInt32 31)).toInt32) &&& 858993459)) + ((((((nI y) - ((((nI y).toUInt32 >>> ((1 : Int32).toUInt32 &&& Int32.toUInt32 31)).toInt32) &&& 1431655765)) &&& 858993459) + (((((nI y) - ((((nI y).toUInt32 >>> ((1 : Int32).toUInt32 &&& Int32.toUInt32 31)).toInt32) &&& 1431655765)).toUInt32 >>> ((2 : Int32).toUInt32 &&& Int32.toUInt32 31)).toInt32) &&& 858993459)).toUInt32 >>> ((4 : Int32).toUInt32 &&& Int32.toUInt32 31)).toInt32)) &&& 252645135)], M)) rfl rfl rfl ?_
  refine ps_st (S' := (39, [(0, .int ((((((nI y) - ((((nI y).toUInt32 >>> ((1 : Int32).toUInt32 &&& Int32.toUInt32 31)).toInt32) &&& 1431655765)) &&& 858993459) + (((((nI y) - ((((nI y).toUInt32 >>> ((1 : Int32).toUInt32 &&& Int32.toUInt32 31)).toInt32) &&& 1431655765)).toUInt32 >>> ((2 : Int32).toUInt32 &&& Int32.toUInt32 31)).toInt32) &&& 858993459)) + ((((((nI y) - ((((nI y).toUInt32 >>> ((1 : Int32).toUInt32 &&& Int32.toUInt32 31)).toInt32) &&& 1431655765)) &&& 858993459) + (((((nI y) - ((((nI y).toUInt32 >>> ((1 : Int32).toUInt32 &&& Int32.toUInt32 31)).toInt32) &&& 1431655765)).toUInt32 >>> ((2 : Int32).toUInt32 &&& Int32.toUInt32 31)).toInt32) &&& 858993459)).toUInt32 >>> ((4 : Int32).toUInt32 &&& Int32.toUInt32 31)).toInt32)) &&& 252645135))], [.int ((((((((nI y) - ((((nI y).toUInt32 >>> ((1 : Int32).toUInt32 &&& Int32.toUInt32 31)).toInt32) &&& 1431655765)) &&& 858993459) + (((((nI y) - ((((nI y).toUInt32 >>> ((1 : Int32).toUInt32 &&& Int32.toUInt32 31)).toInt32) &&& 1431655765)).toUInt32 >>> ((2 : Int32).toUInt32 &&& Int32.toUInt32 31)).toInt32) &&& 858993459)) + ((((((nI y) - ((((nI y).toUInt32 >>> ((1 : Int32).toUInt32 &&& Int32.toUInt32 31)).toInt32) &&& 1431655765)) &&& 858993459) + (((((nI y) - ((((nI y).toUInt32 >>> ((1 : Int32).toUInt32 &&& Int32.toUInt32 31)).toInt32) &&& 1431655765)).toUInt32 >>> ((2 : Int32).toUInt32 &&& Int32.toUInt32 31)).toInt32) &&& 858993459)).toUInt32 >>> ((4 : Int32).toUInt32 &&& Int32.toUInt32 31)).toInt32)) &&& 252645135).toUInt32 >>> ((8 : Int32).toUInt32 &&& Int32.toUInt32 31)).toInt32), .int ((((((nI y) - ((((nI y).toUInt32 >>> ((1 : Int32).toUInt32 &&& Int32.toUInt32 31)).toInt32) &&& 1431655765)) &&& 858993459) + (((((nI y) - ((((nI y).toUInt32 >>> ((1 : Int32).toUInt32 &&& Int32.toUInt32 31)).toInt32) &&& 1431655765)).toUInt32 >>> ((2 : Int32).toUInt32 &&& Int32.toUInt32 31)).toInt32) &&& 858993459)) + ((((((nI y) - ((((nI y).toUInt32 >>> ((1 : Int32).toUInt32 &&& Int32.toUInt32 31)).toInt32) &&& 1431655765)) &&& 858993459) + (((((nI y) - ((((nI y).toUInt32 >>> ((1 : Int32).toUInt32 &&& Int32.toUInt32 31)).toInt32) &&& 1431655765)).toUInt32 >>> ((2 : Int32).toUInt32 &&& Int32.toUInt32 31)).toInt32) &&& 858993459)).toUInt32 >>> ((4 : Int32).toUInt32 &&& Int32.toUInt32 31)).toInt32)) &&& 252645135)], M)) rfl rfl rfl ?_
  refine ps_st (S' := (40, [(0, .int ((((((nI y) - ((((nI y).toUInt32 >>> ((1 : Int32).toUInt32 &&& Int32.toUInt32 31)).toInt32) &&& 1431655765)) &&& 858993459) + (((((nI y) - ((((nI y).toUInt32 >>> ((1 : Int32).toUInt32 &&& Int32.toUInt32 31)).toInt32) &&& 1431655765)).toUInt32 >>> ((2 : Int32).toUInt32 &&& Int32.toUInt32 31)).toInt32) &&& 858993459)) + ((((((nI y) - ((((nI y).toUInt32 >>> ((1 : Int32).toUInt32 &&& Int32.toUInt32 31)).toInt32) &&& 1431655765)) &&& 858993459) + (((((nI y) - ((((nI y).toUInt32 >>> ((1 : Int32).toUInt32 &&& Int32.toUInt32 31)).toInt32) &&& 1431655765)).toUInt32 >>> ((2 : Int32).toUInt32 &&& Int32.toUInt32 31)).toInt32) &&& 858993459)).toUInt32 >>> ((4 : Int32).toUInt32 &&& Int32.toUInt32 31)).toInt32)) &&& 252645135))], [.int (((((((nI y) - ((((nI y).toUInt32 >>> ((1 : Int32).toUInt32 &&& Int32.toUInt32 31)).toInt32) &&& 1431655765)) &&& 858993459) + (((((nI y) - ((((nI y).toUInt32 >>> ((1 : Int32).toUInt32 &&& Int32.toUInt32 31)).toInt32) &&& 1431655765)).toUInt32 >>> ((2 : Int32).toUInt32 &&& Int32.toUInt32 31)).toInt32) &&& 858993459)) + ((((((nI y) - ((((nI y).toUInt32 >>> ((1 : Int32).toUInt32 &&& Int32.toUInt32 31)).toInt32) &&& 1431655765)) &&& 858993459) + (((((nI y) - ((((nI y).toUInt32 >>> ((1 : Int32).toUInt32 &&& Int32.toUInt32 31)).toInt32) &&& 1431655765)).toUInt32 >>> ((2 : Int32).toUInt32 &&& Int32.toUInt32 31)).toInt32) &&& 858993459)).toUInt32 >>> ((4 : Int32).toUInt32 &&& Int32.toUInt32 31)).toInt32)) &&& 252645135) + ((((((((nI y) - ((((nI y).toUInt32 >>> ((1 : Int32).toUInt32 &&& Int32.toUInt32 31)).toInt32) &&& 1431655765)) &&& 858993459) + (((((nI y) - ((((nI y).toUInt32 >>> ((1 : Int32).toUInt32 &&& Int32.toUInt32 31)).toInt32) &&& 1431655765)).toUInt32 >>> ((2 : Int32).toUInt32 &&& Int32.toUInt32 31)).toInt32) &&& 858993459)) + ((((((nI y) - ((((nI y).toUInt32 >>> ((1 : Int32).toUInt32 &&& Int32.toUInt32 31)).toInt32) &&& 1431655765)) &&& 858993459) + (((((nI y) - ((((nI y).toUInt32 >>> ((1 : Int32).toUInt32 &&& Int32.toUInt32 31)).toInt32) &&& 1431655765)).toUInt32 >>> ((2 : Int32).toUInt32 &&& Int32.toUInt32 31)).toInt32) &&& 858993459)).toUInt32 >>> ((4 : Int32).toUInt32 &&& Int32.toUInt32 31)).toInt32)) &&& 252645135).toUInt32 >>> ((8 : Int32).toUInt32 &&& Int32.toUInt32 31)).toInt32))], M)) rfl rfl rfl ?_
  refine ps_st (S' := (41, [(0, .int (((((((nI y) - ((((nI y).toUInt32 >>> ((1 : Int32).toUInt32 &&& Int32.toUInt32 31)).toInt32) &&& 1431655765)) &&& 858993459) + (((((nI y) - ((((nI y).toUInt32 >>> ((1 : Int32).toUInt32 &&& Int32.toUInt32 31)).toInt32) &&& 1431655765)).toUInt32 >>> ((2 : Int32).toUInt32 &&& Int32.toUInt32 31)).toInt32) &&& 858993459)) + ((((((nI y) - ((((nI y).toUInt32 >>> ((1 : Int32).toUInt32 &&& Int32.toUInt32 31)).toInt32) &&& 1431655765)) &&& 858993459) + (((((nI y) - ((((nI y).toUInt32 >>> ((1 : Int32).toUInt32 &&& Int32.toUInt32 31)).toInt32) &&& 1431655765)).toUInt32 >>> ((2 : Int32).toUInt32 &&& Int32.toUInt32 31)).toInt32) &&& 858993459)).toUInt32 >>> ((4 : Int32).toUInt32 &&& Int32.toUInt32 31)).toInt32)) &&& 252645135) + ((((((((nI y) - ((((nI y).toUInt32 >>> ((1 : Int32).toUInt32 &&& Int32.toUInt32 31)).toInt32) &&& 1431655765)) &&& 858993459) + (((((nI y) - ((((nI y).toUInt32 >>> ((1 : Int32).toUInt32 &&& Int32.toUInt32 31)).toInt32) &&& 1431655765)).toUInt32 >>> ((2 : Int32).toUInt32 &&& Int32.toUInt32 31)).toInt32) &&& 858993459)) + ((((((nI y) - ((((nI y).toUInt32 >>> ((1 : Int32).toUInt32 &&& Int32.toUInt32 31)).toInt32) &&& 1431655765)) &&& 858993459) + (((((nI y) - ((((nI y).toUInt32 >>> ((1 : Int32).toUInt32 &&& Int32.toUInt32 31)).toInt32) &&& 1431655765)).toUInt32 >>> ((2 : Int32).toUInt32 &&& Int32.toUInt32 31)).toInt32) &&& 858993459)).toUInt32 >>> ((4 : Int32).toUInt32 &&& Int32.toUInt32 31)).toInt32)) &&& 252645135).toUInt32 >>> ((8 : Int32).toUInt32 &&& Int32.toUInt32 31)).toInt32)))], [], M)) rfl rfl rfl ?_
  refine ps_st (S' := (42, [(0, .int (((((((nI y) - ((((nI y).toUInt32 >>> ((1 : Int32).toUInt32 &&& Int32.toUInt32 31)).toInt32) &&& 1431655765)) &&& 858993459) + (((((nI y) - ((((nI y).toUInt32 >>> ((1 : Int32).toUInt32 &&& Int32.toUInt32 31)).toInt32) &&& 1431655765)).toUInt32 >>> ((2 : Int32).toUInt32 &&& Int32.toUInt32 31)).toInt32) &&& 858993459)) + ((((((nI y) - ((((nI y).toUInt32 >>> ((1 : Int32).toUInt32 &&& Int32.toUInt32 31)).toInt32) &&& 1431655765)) &&& 858993459) + (((((nI y) - ((((nI y).toUInt32 >>> ((1 : Int32).toUInt32 &&& Int32.toUInt32 31)).toInt32) &&& 1431655765)).toUInt32 >>> ((2 : Int32).toUInt32 &&& Int32.toUInt32 31)).toInt32) &&& 858993459)).toUInt32 >>> ((4 : Int32).toUInt32 &&& Int32.toUInt32 31)).toInt32)) &&& 252645135) + ((((((((nI y) - ((((nI y).toUInt32 >>> ((1 : Int32).toUInt32 &&& Int32.toUInt32 31)).toInt32) &&& 1431655765)) &&& 858993459) + (((((nI y) - ((((nI y).toUInt32 >>> ((1 : Int32).toUInt32 &&& Int32.toUInt32 31)).toInt32) &&& 1431655765)).toUInt32 >>> ((2 : Int32).toUInt32 &&& Int32.toUInt32 31)).toInt32) &&& 858993459)) + ((((((nI y) - ((((nI y).toUInt32 >>> ((1 : Int32).toUInt32 &&& Int32.toUInt32 31)).toInt32) &&& 1431655765)) &&& 858993459) + (((((nI y) - ((((nI y).toUInt32 >>> ((1 : Int32).toUInt32 &&& Int32.toUInt32 31)).toInt32) &&& 1431655765)).toUInt32 >>> ((2 : Int32).toUInt32 &&& Int32.toUInt32 31)).toInt32) &&& 858993459)).toUInt32 >>> ((4 : Int32).toUInt32 &&& Int32.toUInt32 31)).toInt32)) &&& 252645135).toUInt32 >>> ((8 : Int32).toUInt32 &&& Int32.toUInt32 31)).toInt32)))], [.int (((((((nI y) - ((((nI y).toUInt32 >>> ((1 : Int32).toUInt32 &&& Int32.toUInt32 31)).toInt32) &&& 1431655765)) &&& 858993459) + (((((nI y) - ((((nI y).toUInt32 >>> ((1 : Int32).toUInt32 &&& Int32.toUInt32 31)).toInt32) &&& 1431655765)).toUInt32 >>> ((2 : Int32).toUInt32 &&& Int32.toUInt32 31)).toInt32) &&& 858993459)) + ((((((nI y) - ((((nI y).toUInt32 >>> ((1 : Int32).toUInt32 &&& Int32.toUInt32 31)).toInt32) &&& 1431655765)) &&& 858993459) + (((((nI y) - ((((nI y).toUInt32 >>> ((1 : Int32).toUInt32 &&& Int32.toUInt32 31)).toInt32) &&& 1431655765)).toUInt32 >>> ((2 : Int32).toUInt32 &&& Int32.toUInt32 31)).toInt32) &&& 858993459)).toUInt32 >>> ((4 : Int32).toUInt32 &&& Int32.toUInt32 31)).toInt32)) &&& 252645135) + ((((((((nI y) - ((((nI y).toUInt32 >>> ((1 : Int32).toUInt32 &&& Int32.toUInt32 31)).toInt32) &&& 1431655765)) &&& 858993459) + (((((nI y) - ((((nI y).toUInt32 >>> ((1 : Int32).toUInt32 &&& Int32.toUInt32 31)).toInt32) &&& 1431655765)).toUInt32 >>> ((2 : Int32).toUInt32 &&& Int32.toUInt32 31)).toInt32) &&& 858993459)) + ((((((nI y) - ((((nI y).toUInt32 >>> ((1 : Int32).toUInt32 &&& Int32.toUInt32 31)).toInt32) &&& 1431655765)) &&& 858993459) + (((((nI y) - ((((nI y).toUInt32 >>> ((1 : Int32).toUInt32 &&& Int32.toUInt32 31)).toInt32) &&& 1431655765)).toUInt32 >>> ((2 : Int32).toUInt32 &&& Int32.toUInt32 31)).toInt32) &&& 858993459)).toUInt32 >>> ((4 : Int32).toUInt32 &&& Int32.toUInt32 31)).toInt32)) &&& 252645135).toUInt32 >>> ((8 : Int32).toUInt32 &&& Int32.toUInt32 31)).toInt32))], M)) rfl rfl rfl ?_
  refine ps_st (S' := (43, [(0, .int (((((((nI y) - ((((nI y).toUInt32 >>> ((1 : Int32).toUInt32 &&& Int32.toUInt32 31)).toInt32) &&& 1431655765)) &&& 858993459) + (((((nI y) - ((((nI y).toUInt32 >>> ((1 : Int32).toUInt32 &&& Int32.toUInt32 31)).toInt32) &&& 1431655765)).toUInt32 >>> ((2 : Int32).toUInt32 &&& Int32.toUInt32 31)).toInt32) &&& 858993459)) + ((((((nI y) - ((((nI y).toUInt32 >>> ((1 : Int32).toUInt32 &&& Int32.toUInt32 31)).toInt32) &&& 1431655765)) &&& 858993459) + (((((nI y) - ((((nI y).toUInt32 >>> ((1 : Int32).toUInt32 &&& Int32.toUInt32 31)).toInt32) &&& 1431655765)).toUInt32 >>> ((2 : Int32).toUInt32 &&& Int32.toUInt32 31)).toInt32) &&& 858993459)).toUInt32 >>> ((4 : Int32).toUInt32 &&& Int32.toUInt32 31)).toInt32)) &&& 252645135) + ((((((((nI y) - ((((nI y).toUInt32 >>> ((1 : Int32).toUInt32 &&& Int32.toUInt32 31)).toInt32) &&& 1431655765)) &&& 858993459) + (((((nI y) - ((((nI y).toUInt32 >>> ((1 : Int32).toUInt32 &&& Int32.toUInt32 31)).toInt32) &&& 1431655765)).toUInt32 >>> ((2 : Int32).toUInt32 &&& Int32.toUInt32 31)).toInt32) &&& 858993459)) + ((((((nI y) - ((((nI y).toUInt32 >>> ((1 : Int32).toUInt32 &&& Int32.toUInt32 31)).toInt32) &&& 1431655765)) &&& 858993459) + (((((nI y) - ((((nI y).toUInt32 >>> ((1 : Int32).toUInt32 &&& Int32.toUInt32 31)).toInt32) &&& 1431655765)).toUInt32 >>> ((2 : Int32).toUInt32 &&& Int32.toUInt32 31)).toInt32) &&& 858993459)).toUInt32 >>> ((4 : Int32).toUInt32 &&& Int32.toUInt32 31)).toInt32)) &&& 252645135).toUInt32 >>> ((8 : Int32).toUInt32 &&& Int32.toUInt32 31)).toInt32)))], [.int (((((((nI y) - ((((nI y).toUInt32 >>> ((1 : Int32).toUInt32 &&& Int32.toUInt32 31)).toInt32) &&& 1431655765)) &&& 858993459) + (((((nI y) - ((((nI y).toUInt32 >>> ((1 : Int32).toUInt32 &&& Int32.toUInt32 31)).toInt32) &&& 1431655765)).toUInt32 >>> ((2 : Int32).toUInt32 &&& Int32.toUInt32 31)).toInt32) &&& 858993459)) + ((((((nI y) - ((((nI y).toUInt32 >>> ((1 : Int32).toUInt32 &&& Int32.toUInt32 31)).toInt32) &&& 1431655765)) &&& 858993459) + (((((nI y) - ((((nI y).toUInt32 >>> ((1 : Int32).toUInt32 &&& Int32.toUInt32 31)).toInt32) &&& 1431655765)).toUInt32 >>> ((2 : Int32).toUInt32 &&& Int32.toUInt32 31)).toInt32) &&& 858993459)).toUInt32 >>> ((4 : Int32).toUInt32 &&& Int32.toUInt32 31)).toInt32)) &&& 252645135) + ((((((((nI y) - ((((nI y).toUInt32 >>> ((1 : Int32).toUInt32 &&& Int32.toUInt32 31)).toInt32) &&& 1431655765)) &&& 858993459) + (((((nI y) - ((((nI y).toUInt32 >>> ((1 : Int32).toUInt32 &&& Int32.toUInt32 31)).toInt32) &&& 1431655765)).toUInt32 >>> ((2 : Int32).toUInt32 &&& Int32.toUInt32 31)).toInt32) &&& 858993459)) + ((((((nI y) - ((((nI y).toUInt32 >>> ((1 : Int32).toUInt32 &&& Int32.toUInt32 31)).toInt32) &&& 1431655765)) &&& 858993459) + (((((nI y) - ((((nI y).toUInt32 >>> ((1 : Int32).toUInt32 &&& Int32.toUInt32 31)).toInt32) &&& 1431655765)).toUInt32 >>> ((2 : Int32).toUInt32 &&& Int32.toUInt32 31)).toInt32) &&& 858993459)).toUInt32 >>> ((4 : Int32).toUInt32 &&& Int32.toUInt32 31)).toInt32)) &&& 252645135).toUInt32 >>> ((8 : Int32).toUInt32 &&& Int32.toUInt32 31)).toInt32)), .int (((((((nI y) - ((((nI y).toUInt32 >>> ((1 : Int32).toUInt32 &&& Int32.toUInt32 31)).toInt32) &&& 1431655765)) &&& 858993459) + (((((nI y) - ((((nI y).toUInt32 >>> ((1 : Int32).toUInt32 &&& Int32.toUInt32 31)).toInt32) &&& 1431655765)).toUInt32 >>> ((2 : Int32).toUInt32 &&& Int32.toUInt32 31)).toInt32) &&& 858993459)) + ((((((nI y) - ((((nI y).toUInt32 >>> ((1 : Int32).toUInt32 &&& Int32.toUInt32 31)).toInt32) &&& 1431655765)) &&& 858993459) + (((((nI y) - ((((nI y).toUInt32 >>> ((1 : Int32).toUInt32 &&& Int32.toUInt32 31)).toInt32) &&& 1431655765)).toUInt32 >>> ((2 : Int32).toUInt32 &&& Int32.toUInt32 31)).toInt32) &&& 858993459)).toUInt32 >>> ((4 : Int32).toUInt32 &&& Int32.toUInt32 31)).toInt32)) &&& 252645135) + ((((((((nI y) - ((((nI y).toUInt32 >>> ((1 : Int32).toUInt32 &&& Int32.toUInt32 31)).toInt32) &&& 1431655765)) &&& 858993459) + (((((nI y) - ((((nI y).toUInt32 >>> ((1 : Int32).toUInt32 &&& Int32.toUInt32 31)).toInt32) &&& 1431655765)).toUInt32 >>> ((2 : Int32).toUInt32 &&& Int32.toUInt32 31)).toInt32) &&& 858993459)) + ((((((nI y) - ((((nI y).toUInt32 >>> ((1 : Int32).toUInt32 &&& Int32.toUInt32 31)).toInt32) &&& 1431655765)) &&& 858993459) + (((((nI y) - ((((nI y).toUInt32 >>> ((1 : Int32).toUInt32 &&& Int32.toUInt32 31)).toInt32) &&& 1431655765)).toUInt32 >>> ((2 : Int32).toUInt32 &&& Int32.toUInt32 31)).toInt32) &&& 858993459)).toUInt32 >>> ((4 : Int32).toUInt32 &&& Int32.toUInt32 31)).toInt32)) &&& 252645135).toUInt32 >>> ((8 : Int32).toUInt32 &&& Int32.toUInt32 31)).toInt32))], M)) rfl rfl rfl ?_
  refine ps_st (S' := (45, [(0, .int (((((((nI y) - ((((nI y).toUInt32 >>> ((1 : Int32).toUInt32 &&& Int32.toUInt32 31)).toInt32) &&& 1431655765)) &&& 858993459) + (((((nI y) - ((((nI y).toUInt32 >>> ((1 : Int32).toUInt32 &&& Int32.toUInt32 31)).toInt32) &&& 1431655765)).toUInt32 >>> ((2 : Int32).toUInt32 &&& Int32.toUInt32 31)).toInt32) &&& 858993459)) + ((((((nI y) - ((((nI y).toUInt32 >>> ((1 : Int32).toUInt32 &&& Int32.toUInt32 31)).toInt32) &&& 1431655765)) &&& 858993459) + (((((nI y) - ((((nI y).toUInt32 >>> ((1 : Int32).toUInt32 &&& Int32.toUInt32 31)).toInt32) &&& 1431655765)).toUInt32 >>> ((2 : Int32).toUInt32 &&& Int32.toUInt32 31)).toInt32) &&& 858993459)).toUInt32 >>> ((4 : Int32).toUInt32 &&& Int32.toUInt32 31)).toInt32)) &&& 252645135) + ((((((((nI y) - ((((nI y).toUInt32 >>> ((1 : Int32).toUInt32 &&& Int32.toUInt32 31)).toInt32) &&& 1431655765)) &&& 858993459) + (((((nI y) - ((((nI y).toUInt32 >>> ((1 : Int32).toUInt32 &&& Int32.toUInt32 31)).toInt32) &&& 1431655765)).toUInt32 >>> ((2 : Int32).toUInt32 &&& Int32.toUInt32 31)).toInt32) &&& 858993459)) + ((((((nI y) - ((((nI y).toUInt32 >>> ((1 : Int32).toUInt32 &&& Int32.toUInt32 31)).toInt32) &&& 1431655765)) &&& 858993459) + (((((nI y) - ((((nI y).toUInt32 >>> ((1 : Int32).toUInt32 &&& Int32.toUInt32 31)).toInt32) &&& 1431655765)).toUInt32 >>> ((2 : Int32).toUInt32 &&& Int32.toUInt32 31)).toInt32) &&& 858993459)).toUInt32 >>> ((4 : Int32).toUInt32 &&& Int32.toUInt32 31)).toInt32)) &&& 252645135).toUInt32 >>> ((8 : Int32).toUInt32 &&& Int32.toUInt32 31)).toInt32)))], [.int 16, .int (((((((nI y) - ((((nI y).toUInt32 >>> ((1 : Int32).toUInt32 &&& Int32.toUInt32 31)).toInt32) &&& 1431655765)) &&& 858993459) + (((((nI y) - ((((nI y).toUInt32 >>> ((1 : Int32).toUInt32 &&& Int32.toUInt32 31)).toInt32) &&& 1431655765)).toUInt32 >>> ((2 : Int32).toUInt32 &&& Int32.toUInt32 31)).toInt32) &&& 858993459)) + ((((((nI y) - ((((nI y).toUInt32 >>> ((1 : Int32).toUInt32 &&& Int32.toUInt32 31)).toInt32) &&& 1431655765)) &&& 858993459) + (((((nI y) - ((((nI y).toUInt32 >>> ((1 : Int32).toUInt32 &&& Int32.toUInt32 31)).toInt32) &&& 1431655765)).toUInt32 >>> ((2 : Int32).toUInt32 &&& Int32.toUInt32 31)).toInt32) &&& 858993459)).toUInt32 >>> ((4 : Int32).toUInt32 &&& Int32.toUInt32 31)).toInt32)) &&& 252645135) + ((((((((nI y) - ((((nI y).toUInt32 >>> ((1 : Int32).toUInt32 &&& Int32.toUInt32 31)).toInt32) &&& 1431655765)) &&& 858993459) + (((((nI y) - ((((nI y).toUInt32 >>> ((1 : Int32).toUInt32 &&& Int32.toUInt32 31)).toInt32) &&& 1431655765)).toUInt32 >>> ((2 : Int32).toUInt32 &&& Int32.toUInt32 31)).toInt32) &&& 858993459)) + ((((((nI y) - ((((nI y).toUInt32 >>> ((1 : Int32).toUInt32 &&& Int32.toUInt32 31)).toInt32) &&& 1431655765)) &&& 858993459) + (((((nI y) - ((((nI y).toUInt32 >>> ((1 : Int32).toUInt32 &&& Int32.toUInt32 31)).toInt32) &&& 1431655765)).toUInt32 >>> ((2 : Int32).toUInt32 &&& Int32.toUInt32 31)).toInt32) &&& 858993459)).toUInt32 >>> ((4 : Int32).toUInt32 &&& Int32.toUInt32 31)).toInt32)) &&& 252645135).toUInt32 >>> ((8 : Int32).toUInt32 &&& Int32.toUInt32 31)).toInt32)), .int (((((((nI y) - ((((nI y).toUInt32 >>> ((1 : Int32).toUInt32 &&& Int32.toUInt32 31)).toInt32) &&& 1431655765)) &&& 858993459) + (((((nI y) - ((((nI y).toUInt32 >>> ((1 : Int32).toUInt32 &&& Int32.toUInt32 31)).toInt32) &&& 1431655765)).toUInt32 >>> ((2 : Int32).toUInt32 &&& Int32.toUInt32 31)).toInt32) &&& 858993459)) + ((((((nI y) - ((((nI y).toUInt32 >>> ((1 : Int32).toUInt32 &&& Int32.toUInt32 31)).toInt32) &&& 1431655765)) &&& 858993459) + (((((nI y) - ((((nI y).toUInt32 >>> ((1 : Int32).toUInt32 &&& Int32.toUInt32 31)).toInt32) &&& 1431655765)).toUInt32 >>> ((2 : Int32).toUInt32 &&& Int32.toUInt32 31)).toInt32) &&& 858993459)).toUInt32 >>> ((4 : Int32).toUInt32 &&& Int32.toUInt32 31)).toInt32)) &&& 252645135) + ((((((((nI y) - ((((nI y).toUInt32 >>> ((1 : Int32).toUInt32 &&& Int32.toUInt32 31)).toInt32) &&& 1431655765)) &&& 858993459) + (((((nI y) - ((((nI y).toUInt32 >>> ((1 : Int32).toUInt32 &&& Int32.toUInt32 31)).toInt32) &&& 1431655765)).toUInt32 >>> ((2 : Int32).toUInt32 &&& Int32.toUInt32 31)).toInt32) &&& 858993459)) + ((((((nI y) - ((((nI y).toUInt32 >>> ((1 : Int32).toUInt32 &&& Int32.toUInt32 31)).toInt32) &&& 1431655765)) &&& 858993459) + (((((nI y) - ((((nI y).toUInt32 >>> ((1 : Int32).toUInt32 &&& Int32.toUInt32 31)).toInt32) &&& 1431655765)).toUInt32 >>> ((2 : Int32).toUInt32 &&& Int32.toUInt32 31)).toInt32) &&& 858993459)).toUInt32 >>> ((4 : Int32).toUInt32 &&& Int32.toUInt32 31)).toInt32)) &&& 252645135).toUInt32 >>> ((8 : Int32).toUInt32 &&& Int32.toUInt32 31)).toInt32))], M)) rfl rfl rfl ?_
  refine ps_st (S' := (46, [(0, .int (((((((nI y) - ((((nI y).toUInt32 >>> ((1 : Int32).toUInt32 &&& Int32.toUInt32 31)).toInt32) &&& 1431655765)) &&& 858993459) + (((((nI y) - ((((nI y).toUInt32 >>> ((1 : Int32).toUInt32 &&& Int32.toUInt32 31)).toInt32) &&& 1431655765)).toUInt32 >>> ((2 : Int32).toUInt32 &&& Int32.toUInt32 31)).toInt32) &&& 858993459)) + ((((((nI y) - ((((nI y).toUInt32 >>> ((1 : Int32).toUInt32 &&& Int32.toUInt32 31)).toInt32) &&& 1431655765)) &&& 858993459) + (((((nI y) - ((((nI y).toUInt32 >>> ((1 : Int32).toUInt32 &&& Int32.toUInt32 31)).toInt32) &&& 1431655765)).toUInt32 >>> ((2 : Int32).toUInt32 &&& Int32.toUInt32 31)).toInt32) &&& 858993459)).toUInt32 >>> ((4 : Int32).toUInt32 &&& Int32.toUInt32 31)).toInt32)) &&& 252645135) + ((((((((nI y) - ((((nI y).toUInt32 >>> ((1 : Int32).toUInt32 &&& Int32.toUInt32 31)).toInt32) &&& 1431655765)) &&& 858993459) + (((((nI y) - ((((nI y).toUInt32 >>> ((1 : Int32).toUInt32 &&& Int32.toUInt32 31)).toInt32) &&& 1431655765)).toUInt32 >>> ((2 : Int32).toUInt32 &&& Int32.toUInt32 31)).toInt32) &&& 858993459)) + ((((((nI y) - ((((nI y).toUInt32 >>> ((1 : Int32).toUInt32 &&& Int32.toUInt32 31)).toInt32) &&& 1431655765)) &&& 858993459) + (((((nI y) - ((((nI y).toUInt32 >>> ((1 : Int32).toUInt32 &&& Int32.toUInt32 31)).toInt32) &&& 1431655765)).toUInt32 >>> ((2 : Int32).toUInt32 &&& Int32.toUInt32 31)).toInt32) &&& 858993459)).toUInt32 >>> ((4 : Int32).toUInt32 &&& Int32.toUInt32 31)).toInt32)) &&& 252645135).toUInt32 >>> ((8 : Int32).toUInt32 &&& Int32.toUInt32 31)).toInt32)))], [.int (((((((((nI y) - ((((nI y).toUInt32 >>> ((1 : Int32).toUInt32 &&& Int32.toUInt32 31)).toInt32) &&& 1431655765)) &&& 858993459) + (((((nI y) - ((((nI y).toUInt32 >>> ((1 : Int32).toUInt32 &&& Int32.toUInt32 31)).toInt32) &&& 1431655765)).toUInt32 >>> ((2 : Int32).toUInt32 &&& Int32.toUInt32 31)).toInt32) &&& 858993459)) + ((((((nI y) - ((((nI y).toUInt32 >>> ((1 : Int32).toUInt32 &&& Int32.toUInt32 31)).toInt32) &&& 1431655765)) &&& 858993459) + (((((nI y) - ((((nI y).toUInt32 >>> ((1 : Int32).toUInt32 &&& Int32.toUInt32 31)).toInt32) &&& 1431655765)).toUInt32 >>> ((2 : Int32).toUInt32 &&& Int32.toUInt32 31)).toInt32) &&& 858993459)).toUInt32 >>> ((4 : Int32).toUInt32 &&& Int32.toUInt32 31)).toInt32)) &&& 252645135) + ((((((((nI y) - ((((nI y).toUInt32 >>> ((1 : Int32).toUInt32 &&& Int32.toUInt32 31)).toInt32) &&& 1431655765)) &&& 858993459) + (((((nI y) - ((((nI y).toUInt32 >>> ((1 : Int32).toUInt32 &&& Int32.toUInt32 31)).toInt32) &&& 1431655765)).toUInt32 >>> ((2 : Int32).toUInt32 &&& Int32.toUInt32 31)).toInt32) &&& 858993459)) + ((((((nI y) - ((((nI y).toUInt32 >>> ((1 : Int32).toUInt32 &&& Int32.toUInt32 31)).toInt32) &&& 1431655765)) &&& 858993459) + (((((nI y) - ((((nI y).toUInt32 >>> ((1 : Int32).toUInt32 &&& Int32.toUInt32 31)).toInt32) &&& 1431655765)).toUInt32 >>> ((2 : Int32).toUInt32 &&& Int32.toUInt32 31)).toInt32) &&& 858993459)).toUInt32 >>> ((4 : Int32).toUInt32 &&& Int32.toUInt32 31)).toInt32)) &&& 252645135).toUInt32 >>> ((8 : Int32).toUInt32 &&& Int32.toUInt32 31)).toInt32)).toUInt32 >>> ((16 : Int32).toUInt32 &&& Int32.toUInt32 31)).toInt32), .int (((((((nI y) - ((((nI y).toUInt32 >>> ((1 : Int32).toUInt32 &&& Int32.toUInt32 31)).toInt32) &&& 1431655765)) &&& 858993459) + (((((nI y) - ((((nI y).toUInt32 >>> ((1 : Int32).toUInt32 &&& Int32.toUInt32 31)).toInt32) &&& 1431655765)).toUInt32 >>> ((2 : Int32).toUInt32 &&& Int32.toUInt32 31)).toInt32) &&& 858993459)) + ((((((nI y) - ((((nI y).toUInt32 >>> ((1 : Int32).toUInt32 &&& Int32.toUInt32 31)).toInt32) &&& 1431655765)) &&& 858993459) + (((((nI y) - ((((nI y).toUInt32 >>> ((1 : Int32).toUInt32 &&& Int32.toUInt32 31)).toInt32) &&& 1431655765)).toUInt32 >>> ((2 : Int32).toUInt32 &&& Int32.toUInt32 31)).toInt32) &&& 858993459)).toUInt32 >>> ((4 : Int32).toUInt32 &&& Int32.toUInt32 31)).toInt32)) &&& 252645135) + ((((((((nI y) - ((((nI y).toUInt32 >>> ((1 : Int32).toUInt32 &&& Int32.toUInt32 31)).toInt32) &&& 1431655765)) &&& 858993459) + (((((nI y) - ((((nI y).toUInt32 >>> ((1 : Int32).toUInt32 &&& Int32.toUInt32 31)).toInt32) &&& 1431655765)).toUInt32 >>> ((2 : Int32).toUInt32 &&& Int32.toUInt32 31)).toInt32) &&& 858993459)) + ((((((nI y) - ((((nI y).toUInt32 >>> ((1 : Int32).toUInt32 &&& Int32.toUInt32 31)).toInt32) &&& 1431655765)) &&& 858993459) + (((((nI y) - ((((nI y).toUInt32 >>> ((1 : Int32).toUInt32 &&& Int32.toUInt32 31)).toInt32) &&& 1431655765)).toUInt32 >>> ((2 : Int32).toUInt32 &&& Int32.toUInt32 31)).toInt32) &&& 858993459)).toUInt32 >>> ((4 : Int32).toUInt32 &&& Int32.toUInt32 31)).toInt32)) &&& 252645135).toUInt32 >>> ((8 : Int32).toUInt32 &&& Int32.toUInt32 31)).toInt32))], M)) rfl rfl rfl ?_
  refine ps_st (S' := (47, [(0, .int (((((((nI y) - ((((nI y).toUInt32 >>> ((1 : Int32).toUInt32 &&& Int32.toUInt32 31)).toInt32) &&& 1431655765)) &&& 858993459) + (((((nI y) - ((((nI y).toUInt32 >>> ((1 : Int32).toUInt32 &&& Int32.toUInt32 31)).toInt32) &&& 1431655765)).toUInt32 >>> ((2 : Int32).toUInt32 &&& Int32.toUInt32 31)).toInt32) &&& 858993459)) + ((((((nI y) - ((((nI y).toUInt32 >>> ((1 : Int32).toUInt32 &&& Int32.toUInt32 31)).toInt32) &&& 1431655765)) &&& 858993459) + (((((nI y) - ((((nI y).toUInt32 >>> ((1 : Int32).toUInt32 &&& Int32.toUInt32 31)).toInt32) &&& 1431655765)).toUInt32 >>> ((2 : Int32).toUInt32 &&& Int32.toUInt32 31)).toInt32) &&& 858993459)).toUInt32 >>> ((4 : Int32).toUInt32 &&& Int32.toUInt32 31)).toInt32)) &&& 252645135) + ((((((((nI y) - ((((nI y).toUInt32 >>> ((1 : Int32).toUInt32 &&& Int32.toUInt32 31)).toInt32) &&& 1431655765)) &&& 858993459) + (((((nI y) - ((((nI y).toUInt32 >>> ((1 : Int32).toUInt32 &&& Int32.toUInt32 31)).toInt32) &&& 1431655765)).toUInt32 >>> ((2 : Int32).toUInt32 &&& Int32.toUInt32 31)).toInt32) &&& 858993459)) + ((((((nI y) - ((((nI y).toUInt32 >>> ((1 : Int32).toUInt32 &&& Int32.toUInt32 31)).toInt32) &&& 1431655765)) &&& 858993459) + (((((nI y) - ((((nI y).toUInt32 >>> ((1 : Int32).toUInt32 &&& Int32.toUInt32 31)).toInt32) &&& 1431655765)).toUInt32 >>> ((2 : Int32).toUInt32 &&& Int32.toUInt32 31)).toInt32) &&& 858993459)).toUInt32 >>> ((4 : Int32).toUInt32 &&& Int32.toUInt32 31)).toInt32)) &&& 252645135).toUInt32 >>> ((8 : Int32).toUInt32 &&& Int32.toUInt32 31)).toInt32)))], [.int ((((((((nI y) - ((((nI y).toUInt32 >>> ((1 : Int32).toUInt32 &&& Int32.toUInt32 31)).toInt32) &&& 1431655765)) &&& 858993459) + (((((nI y) - ((((nI y).toUInt32 >>> ((1 : Int32).toUInt32 &&& Int32.toUInt32 31)).toInt32) &&& 1431655765)).toUInt32 >>> ((2 : Int32).toUInt32 &&& Int32.toUInt32 31)).toInt32) &&& 858993459)) + ((((((nI y) - ((((nI y).toUInt32 >>> ((1 : Int32).toUInt32 &&& Int32.toUInt32 31)).toInt32) &&& 1431655765)) &&& 858993459) + (((((nI y) - ((((nI y).toUInt32 >>> ((1 : Int32).toUInt32 &&& Int32.toUInt32 31)).toInt32) &&& 1431655765)).toUInt32 >>> ((2 : Int32).toUInt32 &&& Int32.toUInt32 31)).toInt32) &&& 858993459)).toUInt32 >>> ((4 : Int32).toUInt32 &&& Int32.toUInt32 31)).toInt32)) &&& 252645135) + ((((((((nI y) - ((((nI y).toUInt32 >>> ((1 : Int32).toUInt32 &&& Int32.toUInt32 31)).toInt32) &&& 1431655765)) &&& 858993459) + (((((nI y) - ((((nI y).toUInt32 >>> ((1 : Int32).toUInt32 &&& Int32.toUInt32 31)).toInt32) &&& 1431655765)).toUInt32 >>> ((2 : Int32).toUInt32 &&& Int32.toUInt32 31)).toInt32) &&& 858993459)) + ((((((nI y) - ((((nI y).toUInt32 >>> ((1 : Int32).toUInt32 &&& Int32.toUInt32 31)).toInt32) &&& 1431655765)) &&& 858993459) + (((((nI y) - ((((nI y).toUInt32 >>> ((1 : Int32).toUInt32 &&& Int32.toUInt32 31)).toInt32) &&& 1431655765)).toUInt32 >>> ((2 : Int32).toUInt32 &&& Int32.toUInt32 31)).toInt32) &&& 858993459)).toUInt32 >>> ((4 : Int32).toUInt32 &&& Int32.toUInt32 31)).toInt32)) &&& 252645135).toUInt32 >>> ((8 : Int32).toUInt32 &&& Int32.toUInt32 31)).toInt32)) + (((((((((nI y) - ((((nI y).toUInt32 >>> ((1 : Int32).toUInt32 &&& Int32.toUInt32 31)).toInt32) &&& 1431655765)) &&& 858993459) + (((((nI y) - ((((nI y).toUInt32 >>> ((1 : Int32).toUInt32 &&& Int32.toUInt32 31)).toInt32) &&& 1431655765)).toUInt32 >>> ((2 : Int32).toUInt32 &&& Int32.toUInt32 31)).toInt32) &&& 858993459)) + ((((((nI y) - ((((nI y).toUInt32 >>> ((1 : Int32).toUInt32 &&& Int32.toUInt32 31)).toInt32) &&& 1431655765)) &&& 858993459) + (((((nI y) - ((((nI y).toUInt32 >>> ((1 : Int32).toUInt32 &&& Int32.toUInt32 31)).toInt32) &&& 1431655765)).toUInt32 >>> ((2 : Int32).toUInt32 &&& Int32.toUInt32 31)).toInt32) &&& 858993459)).toUInt32 >>> ((4 : Int32).toUInt32 &&& Int32.toUInt32 31)).toInt32)) &&& 252645135) + ((((((((nI y) - ((((nI y).toUInt32 >>> ((1 : Int32).toUInt32 &&& Int32.toUInt32 31)).toInt32) &&& 1431655765)) &&& 858993459) + (((((nI y) - ((((nI y).toUInt32 >>> ((1 : Int32).toUInt32 &&& Int32.toUInt32 31)).toInt32) &&& 1431655765)).toUInt32 >>> ((2 : Int32).toUInt32 &&& Int32.toUInt32 31)).toInt32) &&& 858993459)) + ((((((nI y) - ((((nI y).toUInt32 >>> ((1 : Int32).toUInt32 &&& Int32.toUInt32 31)).toInt32) &&& 1431655765)) &&& 858993459) + (((((nI y) - ((((nI y).toUInt32 >>> ((1 : Int32).toUInt32 &&& Int32.toUInt32 31)).toInt32) &&& 1431655765)).toUInt32 >>> ((2 : Int32).toUInt32 &&& Int32.toUInt32 31)).toInt32) &&& 858993459)).toUInt32 >>> ((4 : Int32).toUInt32 &&& Int32.toUInt32 31)).toInt32)) &&& 252645135).toUInt32 >>> ((8 : Int32).toUInt32 &&& Int32.toUInt32 31)).toInt32)).toUInt32 >>> ((16 : Int32).toUInt32 &&& Int32.toUInt32 31)).toInt32))], M)) rfl rfl rfl ?_
  refine ps_st (S' := (48, [(0, .int ((((((((nI y) - ((((nI y).toUInt32 >>> ((1 : Int32).toUInt32 &&& Int32.toUInt32 31)).toInt32) &&& 1431655765)) &&& 858993459) + (((((nI y) - ((((nI y).toUInt32 >>> ((1 : Int32).toUInt32 &&& Int32.toUInt32 31)).toInt32) &&& 1431655765)).toUInt32 >>> ((2 : Int32).toUInt32 &&& Int32.toUInt32 31)).toInt32) &&& 858993459)) + ((((((nI y) - ((((nI y).toUInt32 >>> ((1 : Int32).toUInt32 &&& Int32.toUInt32 31)).toInt32) &&& 1431655765)) &&& 858993459) + (((((nI y) - ((((nI y).toUInt32 >>> ((1 : Int32).toUInt32 &&& Int32.toUInt32 31)).toInt32) &&& 1431655765)).toUInt32 >>> ((2 : Int32).toUInt32 &&& Int32.toUInt32 31)).toInt32) &&& 858993459)).toUInt32 >>> ((4 : Int32).toUInt32 &&& Int32.toUInt32 31)).toInt32)) &&& 252645135) + ((((((((nI y) - ((((nI y).toUInt32 >>> ((1 : Int32).toUInt32 &&& Int32.toUInt32 31)).toInt32) &&& 1431655765)) &&& 858993459) + (((((nI y) - ((((nI y).toUInt32 >>> ((1 : Int32).toUInt32 &&& Int32.toUInt32 31)).toInt32) &&& 1431655765)).toUInt32 >>> ((2 : Int32).toUInt32 &&& Int32.toUInt32 31)).toInt32) &&& 858993459)) + ((((((nI y) - ((((nI y).toUInt32 >>> ((1 : Int32).toUInt32 &&& Int32.toUInt32 31)).toInt32) &&& 1431655765)) &&& 858993459) + (((((nI y) - ((((nI y).toUInt32 >>> ((1 : Int32).toUInt32 &&& Int32.toUInt32 31)).toInt32) &&& 1431655765)).toUInt32 >>> ((2 : Int32).toUInt32 &&& Int32.toUInt32 31)).toInt32) &&& 858993459)).toUInt32 >>> ((4 : Int32).toUInt32 &&& Int32.toUInt32 31)).toInt32)) &&& 252645135).toUInt32 >>> ((8 : Int32).toUInt32 &&& Int32.toUInt32 31)).toInt32)) + (((((((((nI y) - ((((nI y).toUInt32 >>> ((1 : Int32).toUInt32 &&& Int32.toUInt32 31)).toInt32) &&& 1431655765)) &&& 858993459) + (((((nI y) - ((((nI y).toUInt32 >>> ((1 : Int32).toUInt32 &&& Int32.toUInt32 31)).toInt32) &&& 1431655765)).toUInt32 >>> ((2 : Int32).toUInt32 &&& Int32.toUInt32 31)).toInt32) &&& 858993459)) + ((((((nI y) - ((((nI y).toUInt32 >>> ((1 : Int32).toUInt32 &&& Int32.toUInt32 31)).toInt32) &&& 1431655765)) &&& 858993459) + (((((nI y) - ((((nI y).toUInt32 >>> ((1 : Int32).toUInt32 &&& Int32.toUInt32 31)).toInt32) &&& 1431655765)).toUInt32 >>> ((2 : Int32).toUInt32 &&& Int32.toUInt32 31)).toInt32) &&& 858993459)).toUInt32 >>> ((4 : Int32).toUInt32 &&& Int32.toUInt32 31)).toInt32)) &&& 252645135) + ((((((((nI y) - ((((nI y).toUInt32 >>> ((1 : Int32).toUInt32 &&& Int32.toUInt32 31)).toInt32) &&& 1431655765)) &&& 858993459) + (((((nI y) - ((((nI y).toUInt32 >>> ((1 : Int32).toUInt32 &&& Int32.toUInt32 31)).toInt32) &&& 1431655765)).toUInt32 >>> ((2 : Int32).toUInt32 &&& Int32.toUInt32 31)).toInt32) &&& 858993459)) + ((((((nI y) - ((((nI y).toUInt32 >>> ((1 : Int32).toUInt32 &&& Int32.toUInt32 31)).toInt32) &&& 1431655765)) &&& 858993459) + (((((nI y) - ((((nI y).toUInt32 >>> ((1 : Int32).toUInt32 &&& Int32.toUInt32 31)).toInt32) &&& 1431655765)).toUInt32 >>> ((2 : Int32).toUInt32 &&& Int32.toUInt32 31)).toInt32) &&& 858993459)).toUInt32 >>> ((4 : Int32).toUInt32 &&& Int32.toUInt32 31)).toInt32)) &&& 252645135).toUInt32 >>> ((8 : Int32).toUInt32 &&& Int32.toUInt32 31)).toInt32)).toUInt32 >>> ((16 : Int32).toUInt32 &&& Int32.toUInt32 31)).toInt32)))], [], M)) rfl rfl rfl ?_
  refine ps_st (S' := (49, [(0, .int ((((((((nI y) - ((((nI y).toUInt32 >>> ((1 : Int32).toUInt32 &&& Int32.toUInt32 31)).toInt32) &&& 1431655765)) &&& 858993459) + (((((nI y) - ((((nI y).toUInt32 >>> ((1 : Int32).toUInt32 &&& Int32.toUInt32 31)).toInt32) &&& 1431655765)).toUInt32 >>> ((2 : Int32).toUInt32 &&& Int32.toUInt32 31)).toInt32) &&& 858993459)) + ((((((nI y) - ((((nI y).toUInt32 >>> ((1 : Int32).toUInt32 &&& Int32.toUInt32 31)).toInt32) &&& 1431655765)) &&& 858993459) + (((((nI y) - ((((nI y).toUInt32 >>> ((1 : Int32).toUInt32 &&& Int32.toUInt32 31)).toInt32) &&& 1431655765)).toUInt32 >>> ((2 : Int32).toUInt32 &&& Int32.toUInt32 31)).toInt32) &&& 858993459)).toUInt32 >>> ((4 : Int32).toUInt32 &&& Int32.toUInt32 31)).toInt32)) &&& 252645135) + ((((((((nI y) - ((((nI y).toUInt32 >>> ((1 : Int32).toUInt32 &&& Int32.toUInt32 31)).toInt32) &&& 1431655765)) &&& 858993459) + (((((nI y) - ((((nI y).toUInt32 >>> ((1 : Int32).toUInt32 &&& Int32.toUInt32 31)).toInt32) &&& 1431655765)).toUInt32 >>> ((2 : Int32).toUInt32 &&& Int32.toUInt32 31)).toInt32) &&& 858993459)) + ((((((nI y) - ((((nI y).toUInt32 >>> ((1 : Int32).toUInt32 &&& Int32.toUInt32 31)).toInt32) &&& 1431655765)) &&& 858993459) + (((((nI y) - ((((nI y).toUInt32 >>> ((1 : Int32).toUInt32 &&& Int32.toUInt32 31)).toInt32) &&& 1431655765)).toUInt32 >>> ((2 : Int32).toUInt32 &&& Int32.toUInt32 31)).toInt32) &&& 858993459)).toUInt32 >>> ((4 : Int32).toUInt32 &&& Int32.toUInt32 31)).toInt32)) &&& 252645135).toUInt32 >>> ((8 : Int32).toUInt32 &&& Int32.toUInt32 31)).toInt32)) + (((((((((nI y) - ((((nI y).toUInt32 >>> ((1 : Int32).toUInt32 &&& Int32.toUInt32 31)).toInt32) &&& 1431655765)) &&& 858993459) + (((((nI y) - ((((nI y).toUInt32 >>> ((1 : Int32).toUInt32 &&& Int32.toUInt32 31)).toInt32) &&& 1431655765)).toUInt32 >>> ((2 : Int32).toUInt32 &&& Int32.toUInt32 31)).toInt32) &&& 858993459)) + ((((((nI y) - ((((nI y).toUInt32 >>> ((1 : Int32).toUInt32 &&& Int32.toUInt32 31)).toInt32) &&& 1431655765)) &&& 858993459) + (((((nI y) - ((((nI y).toUInt32 >>> ((1 : Int32).toUInt32 &&& Int32.toUInt32 31)).toInt32) &&& 1431655765)).toUInt32 >>> ((2 : Int32).toUInt32 &&& Int32.toUInt32 31)).toInt32) &&& 858993459)).toUInt32 >>> ((4 : Int32).toUInt32 &&& Int32.toUInt32 31)).toInt32)) &&& 252645135) + ((((((((nI y) - ((((nI y).toUInt32 >>> ((1 : Int32).toUInt32 &&& Int32.toUInt32 31)).toInt32) &&& 1431655765)) &&& 858993459) + (((((nI y) - ((((nI y).toUInt32 >>> ((1 : Int32).toUInt32 &&& Int32.toUInt32 31)).toInt32) &&& 1431655765)).toUInt32 >>> ((2 : Int32).toUInt32 &&& Int32.toUInt32 31)).toInt32) &&& 858993459)) + ((((((nI y) - ((((nI y).toUInt32 >>> ((1 : Int32).toUInt32 &&& Int32.toUInt32 31)).toInt32) &&& 1431655765)) &&& 858993459) + (((((nI y) - ((((nI y).toUInt32 >>> ((1 : Int32).toUInt32 &&& Int32.toUInt32 31)).toInt32) &&& 1431655765)).toUInt32 >>> ((2 : Int32).toUInt32 &&& Int32.toUInt32 31)).toInt32) &&& 858993459)).toUInt32 >>> ((4 : Int32).toUInt32 &&& Int32.toUInt32 31)).toInt32)) &&& 252645135).toUInt32 >>> ((8 : Int32).toUInt32 &&& Int32.toUInt32 31)).toInt32)).toUInt32 >>> ((16 : Int32).toUInt32 &&& Int32.toUInt32 31)).toInt32)))], [.int ((((((((nI y) - ((((nI y).toUInt32 >>> ((1 : Int32).toUInt32 &&& Int32.toUInt32 31)).toInt32) &&& 1431655765)) &&& 858993459) + (((((nI y) - ((((nI y).toUInt32 >>> ((1 : Int32).toUInt32 &&& Int32.toUInt32 31)).toInt32) &&& 1431655765)).toUInt32 >>> ((2 : Int32).toUInt32 &&& Int32.toUInt32 31)).toInt32) &&& 858993459)) + ((((((nI y) - ((((nI y).toUInt32 >>> ((1 : Int32).toUInt32 &&& Int32.toUInt32 31)).toInt32) &&& 1431655765)) &&& 858993459) + (((((nI y) - ((((nI y).toUInt32 >>> ((1 : Int32).toUInt32 &&& Int32.toUInt32 31)).toInt32) &&& 1431655765)).toUInt32 >>> ((2 : Int32).toUInt32 &&& Int32.toUInt32 31)).toInt32) &&& 858993459)).toUInt32 >>> ((4 : Int32).toUInt32 &&& Int32.toUInt32 31)).toInt32)) &&& 252645135) + ((((((((nI y) - ((((nI y).toUInt32 >>> ((1 : Int32).toUInt32 &&& Int32.toUInt32 31)).toInt32) &&& 1431655765)) &&& 858993459) + (((((nI y) - ((((nI y).toUInt32 >>> ((1 : Int32).toUInt32 &&& Int32.toUInt32 31)).toInt32) &&& 1431655765)).toUInt32 >>> ((2 : Int32).toUInt32 &&& Int32.toUInt32 31)).toInt32) &&& 858993459)) + ((((((nI y) - ((((nI y).toUInt32 >>> ((1 : Int32).toUInt32 &&& Int32.toUInt32 31)).toInt32) &&& 1431655765)) &&& 858993459) + (((((nI y) - ((((nI y).toUInt32 >>> ((1 : Int32).toUInt32 &&& Int32.toUInt32 31)).toInt32) &&& 1431655765)).toUInt32 >>> ((2 : Int32).toUInt32 &&& Int32.toUInt32 31)).toInt32) &&& 858993459)).toUInt32 >>> ((4 : Int32).toUInt32 &&& Int32.toUInt32 31)).toInt32)) &&& 252645135).toUInt32 >>> ((8 : Int32).toUInt32 &&& Int32.toUInt32 31)).toInt32)) + (((((((((nI y) - ((((nI y).toUInt32 >>> ((1 : Int32).toUInt32 &&& Int32.toUInt32 31)).toInt32) &&& 1431655765)) &&& 858993459) + (((((nI y) - ((((nI y).toUInt32 >>> ((1 : Int32).toUInt32 &&& Int32.toUInt32 31)).toInt32) &&& 1431655765)).toUInt32 >>> ((2 : Int32).toUInt32 &&& Int32.toUInt32 31)).toInt32) &&& 858993459)) + ((((((nI y) - ((((nI y).toUInt32 >>> ((1 : Int32).toUInt32 &&& Int32.toUInt32 31)).toInt32) &&& 1431655765)) &&& 858993459) + (((((nI y) - ((((nI y).toUInt32 >>> ((1 : Int32).toUInt32 &&& Int32.toUInt32 31)).toInt32) &&& 1431655765)).toUInt32 >>> ((2 : Int32).toUInt32 &&& Int32.toUInt32 31)).toInt32) &&& 858993459)).toUInt32 >>> ((4 : Int32).toUInt32 &&& Int32.toUInt32 31)).toInt32)) &&& 252645135) + ((((((((nI y) - ((((nI y).toUInt32 >>> ((1 : Int32).toUInt32 &&& Int32.toUInt32 31)).toInt32) &&& 1431655765)) &&& 858993459) + (((((nI y) - ((((nI y).toUInt32 >>> ((1 : Int32).toUInt32 &&& Int32.toUInt32 31)).toInt32) &&& 1431655765)).toUInt32 >>> ((2 : Int32).toUInt32 &&& Int32.toUInt32 31)).toInt32) &&& 858993459)) + ((((((nI y) - ((((nI y).toUInt32 >>> ((1 : Int32).toUInt32 &&& Int32.toUInt32 31)).toInt32) &&& 1431655765)) &&& 858993459) + (((((nI y) - ((((nI y).toUInt32 >>> ((1 : Int32).toUInt32 &&& Int32.toUInt32 31)).toInt32) &&& 1431655765)).toUInt32 >>> ((2 : Int32).toUInt32 &&& Int32.toUInt32 31)).toInt32) &&& 858993459)).toUInt32 >>> ((4 : Int32).toUInt32 &&& Int32.toUInt32 31)).toInt32)) &&& 252645135).toUInt32 >>> ((8 : Int32).toUInt32 &&& Int32.toUInt32 31)).toInt32)).toUInt32 >>> ((16 : Int32).toUInt32 &&& Int32.toUInt32 31)).toInt32))], M)) rfl rfl rfl ?_
  refine ps_st (S' := (51, [(0, .int ((((((((nI y) - ((((nI y).toUInt32 >>> ((1 : Int32).toUInt32 &&& Int32.toUInt32 31)).toInt32) &&& 1431655765)) &&& 858993459) + (((((nI y) - ((((nI y).toUInt32 >>> ((1 : Int32).toUInt32 &&& Int32.toUInt32 31)).toInt32) &&& 1431655765)).toUInt32 >>> ((2 : Int32).toUInt32 &&& Int32.toUInt32 31)).toInt32) &&& 858993459)) + ((((((nI y) - ((((nI y).toUInt32 >>> ((1 : Int32).toUInt32 &&& Int32.toUInt32 31)).toInt32) &&& 1431655765)) &&& 858993459) + (((((nI y) - ((((nI y).toUInt32 >>> ((1 : Int32).toUInt32 &&& Int32.toUInt32 31)).toInt32) &&& 1431655765)).toUInt32 >>> ((2 : Int32).toUInt32 &&& Int32.toUInt32 31)).toInt32) &&& 858993459)).toUInt32 >>> ((4 : Int32).toUInt32 &&& Int32.toUInt32 31)).toInt32)) &&& 252645135) + ((((((((nI y) - ((((nI y).toUInt32 >>> ((1 : Int32).toUInt32 &&& Int32.toUInt32 31)).toInt32) &&& 1431655765)) &&& 858993459) + (((((nI y) - ((((nI y).toUInt32 >>> ((1 : Int32).toUInt32 &&& Int32.toUInt32 31)).toInt32) &&& 1431655765)).toUInt32 >>> ((2 : Int32).toUInt32 &&& Int32.toUInt32 31)).toInt32) &&& 858993459)) + ((((((nI y) - ((((nI y).toUInt32 >>> ((1 : Int32).toUInt32 &&& Int32.toUInt32 31)).toInt32) &&& 1431655765)) &&& 858993459) + (((((nI y) - ((((nI y).toUInt32 >>> ((1 : Int32).toUInt32 &&& Int32.toUInt32 31)).toInt32) &&& 1431655765)).toUInt32 >>> ((2 : Int32).toUInt32 &&& Int32.toUInt32 31)).toInt32) &&& 858993459)).toUInt32 >>> ((4 : Int32).toUInt32 &&& Int32.toUInt32 31)).toInt32)) &&& 252645135).toUInt32 >>> ((8 : Int32).toUInt32 &&& Int32.toUInt32 31)).toInt32)) + (((((((((nI y) - ((((nI y).toUInt32 >>> ((1 : Int32).toUInt32 &&& Int32.toUInt32 31)).toInt32) &&& 1431655765)) &&& 858993459) + (((((nI y) - ((((nI y).toUInt32 >>> ((1 : Int32).toUInt32 &&& Int32.toUInt32 31)).toInt32) &&& 1431655765)).toUInt32 >>> ((2 : Int32).toUInt32 &&& Int32.toUInt32 31)).toInt32) &&& 858993459)) + ((((((nI y) - ((((nI y).toUInt32 >>> ((1 : Int32).toUInt32 &&& Int32.toUInt32 31)).toInt32) &&& 1431655765)) &&& 858993459) + (((((nI y) - ((((nI y).toUInt32 >>> ((1 : Int32).toUInt32 &&& Int32.toUInt32 31)).toInt32) &&& 1431655765)).toUInt32 >>> ((2 : Int32).toUInt32 &&& Int32.toUInt32 31)).toInt32) &&& 858993459)).toUInt32 >>> ((4 : Int32).toUInt32 &&& Int32.toUInt32 31)).toInt32)) &&& 252645135) + ((((((((nI y) - ((((nI y).toUInt32 >>> ((1 : Int32).toUInt32 &&& Int32.toUInt32 31)).toInt32) &&& 1431655765)) &&& 858993459) + (((((nI y) - ((((nI y).toUInt32 >>> ((1 : Int32).toUInt32 &&& Int32.toUInt32 31)).toInt32) &&& 1431655765)).toUInt32 >>> ((2 : Int32).toUInt32 &&& Int32.toUInt32 31)).toInt32) &&& 858993459)) + ((((((nI y) - ((((nI y).toUInt32 >>> ((1 : Int32).toUInt32 &&& Int32.toUInt32 31)).toInt32) &&& 1431655765)) &&& 858993459) + (((((nI y) - ((((nI y).toUInt32 >>> ((1 : Int32).toUInt32 &&& Int32.toUInt32 31)).toInt32) &&& 1431655765)).toUInt32 >>> ((2 : Int32).toUInt32 &&& Int32.toUInt32 31)).toInt32) &&& 858993459)).toUInt32 >>> ((4 : Int32).toUInt32 &&& Int32.toUInt32 31)).toInt32)) &&& 252645135).toUInt32 >>> ((8 : Int32).toUInt32 &&& Int32.toUInt32 31)).toInt32)).toUInt32 >>> ((16 : Int32).toUInt32 &&& Int32.toUInt32 31)).toInt32)))], [.int 63, .int ((((((((nI y) - ((((nI y).toUInt32 >>> ((1 : Int32).toUInt32 &&& Int32.toUInt32 31)).toInt32) &&& 1431655765)) &&& 858993459) + (((((nI y) - ((((nI y).toUInt32 >>> ((1 : Int32).toUInt32 &&& Int32.toUInt32 31)).toInt32) &&& 1431655765)).toUInt32 >>> ((2 : Int32).toUInt32 &&& Int32.toUInt32 31)).toInt32) &&& 858993459)) + ((((((nI y) - ((((nI y).toUInt32 >>> ((1 : Int32).toUInt32 &&& Int32.toUInt32 31)).toInt32) &&& 1431655765)) &&& 858993459) + (((((nI y) - ((((nI y).toUInt32 >>> ((1 : Int32).toUInt32 &&& Int32.toUInt32 31)).toInt32) &&& 1431655765)).toUInt32 >>> ((2 : Int32).toUInt32 &&& Int32.toUInt32 31)).toInt32) &&& 858993459)).toUInt32 >>> ((4 : Int32).toUInt32 &&& Int32.toUInt32 31)).toInt32)) &&& 252645135) + ((((((((nI y) - ((((nI y).toUInt32 >>> ((1 : Int32).toUInt32 &&& Int32.toUInt32 31)).toInt32) &&& 1431655765)) &&& 858993459) + (((((nI y) - ((((nI y).toUInt32 >>> ((1 : Int32).toUInt32 &&& Int32.toUInt32 31)).toInt32) &&& 1431655765)).toUInt32 >>> ((2 : Int32).toUInt32 &&& Int32.toUInt32 31)).toInt32) &&& 858993459)) + ((((((nI y) - ((((nI y).toUInt32 >>> ((1 : Int32).toUInt32 &&& Int32.toUInt32 31)).toInt32) &&& 1431655765)) &&& 858993459) + (((((nI y) - ((((nI y).toUInt32 >>> ((1 : Int32).toUInt32 &&& Int32.toUInt32 31)).toInt32) &&& 1431655765)).toUInt32 >>> ((2 : Int32).toUInt32 &&& Int32.toUInt32 31)).toInt32) &&& 858993459)).toUInt32 >>> ((4 : Int32).toUInt32 &&& Int32.toUInt32 31)).toInt32)) &&& 252645135).toUInt32 >>> ((8 : Int32).toUInt32 &&& Int32.toUInt32 31)).toInt32)) + (((((((((nI y) - ((((nI y).toUInt32 >>> ((1 : Int32).toUInt32 &&& Int32.toUInt32 31)).toInt32) &&& 1431655765)) &&& 858993459) + (((((nI y) - ((((nI y).toUInt32 >>> ((1 : Int32).toUInt32 &&& Int32.toUInt32 31)).toInt32) &&& 1431655765)).toUInt32 >>> ((2 : Int32).toUInt32 &&& Int32.toUInt32 31)).toInt32) &&& 858993459)) + ((((((nI y) - ((((nI y).toUInt32 >>> ((1 : Int32).toUInt32 &&& Int32.toUInt32 31)).toInt32) &&& 1431655765)) &&& 858993459) + (((((nI y) - ((((nI y).toUInt32 >>> ((1 : Int32).toUInt32 &&& Int32.toUInt32 31)).toInt32) &&& 1431655765)).toUInt32 >>> ((2 : Int32).toUInt32 &&& Int32.toUInt32 31)).toInt32) &&& 858993459)).toUInt32 >>> ((4 : Int32).toUInt32 &&& Int32.toUInt32 31)).toInt32)) &&& 252645135) + ((((((((nI y) - ((((nI y).toUInt32 >>> ((1 : Int32).toUInt32 &&& Int32.toUInt32 31)).toInt32) &&& 1431655765)) &&& 858993459) + (((((nI y) - ((((nI y).toUInt32 >>> ((1 : Int32).toUInt32 &&& Int32.toUInt32 31)).toInt32) &&& 1431655765)).toUInt32 >>> ((2 : Int32).toUInt32 &&& Int32.toUInt32 31)).toInt32) &&& 858993459)) + ((((((nI y) - ((((nI y).toUInt32 >>> ((1 : Int32).toUInt32 &&& Int32.toUInt32 31)).toInt32) &&& 1431655765)) &&& 858993459) + (((((nI y) - ((((nI y).toUInt32 >>> ((1 : Int32).toUInt32 &&& Int32.toUInt32 31)).toInt32) &&& 1431655765)).toUInt32 >>> ((2 : Int32).toUInt32 &&& Int32.toUInt32 31)).toInt32) &&& 858993459)).toUInt32 >>> ((4 : Int32).toUInt32 &&& Int32.toUInt32 31)).toInt32)) &&& 252645135).toUInt32 >>> ((8 : Int32).toUInt32 &&& Int32.toUInt32 31)).toInt32)).toUInt32 >>> ((16 : Int32).toUInt32 &&& Int32.toUInt32 31)).toInt32))], M)) rfl rfl rfl ?_
  refine ps_st (S' := (52, [(0, .int ((((((((nI y) - ((((nI y).toUInt32 >>> ((1 : Int32).toUInt32 &&& Int32.toUInt32 31)).toInt32) &&& 1431655765)) &&& 858993459) + (((((nI y) - ((((nI y).toUInt32 >>> ((1 : Int32).toUInt32 &&& Int32.toUInt32 31)).toInt32) &&& 1431655765)).toUInt32 >>> ((2 : Int32).toUInt32 &&& Int32.toUInt32 31)).toInt32) &&& 858993459)) + ((((((nI y) - ((((nI y).toUInt32 >>> ((1 : Int32).toUInt32 &&& Int32.toUInt32 31)).toInt32) &&& 1431655765)) &&& 858993459) + (((((nI y) - ((((nI y).toUInt32 >>> ((1 : Int32).toUInt32 &&& Int32.toUInt32 31)).toInt32) &&& 1431655765)).toUInt32 >>> ((2 : Int32).toUInt32 &&& Int32.toUInt32 31)).toInt32) &&& 858993459)).toUInt32 >>> ((4 : Int32).toUInt32 &&& Int32.toUInt32 31)).toInt32)) &&& 252645135) + ((((((((nI y) - ((((nI y).toUInt32 >>> ((1 : Int32).toUInt32 &&& Int32.toUInt32 31)).toInt32) &&& 1431655765)) &&& 858993459) + (((((nI y) - ((((nI y).toUInt32 >>> ((1 : Int32).toUInt32 &&& Int32.toUInt32 31)).toInt32) &&& 1431655765)).toUInt32 >>> ((2 : Int32).toUInt32 &&& Int32.toUInt32 31)).toInt32) &&& 858993459)) + ((((((nI y) - ((((nI y).toUInt32 >>> ((1 : Int32).toUInt32 &&& Int32.toUInt32 31)).toInt32) &&& 1431655765)) &&& 858993459) + (((((nI y) - ((((nI y).toUInt32 >>> ((1 : Int32).toUInt32 &&& Int32.toUInt32 31)).toInt32) &&& 1431655765)).toUInt32 >>> ((2 : Int32).toUInt32 &&& Int32.toUInt32 31)).toInt32) &&& 858993459)).toUInt32 >>> ((4 : Int32).toUInt32 &&& Int32.toUInt32 31)).toInt32)) &&& 252645135).toUInt32 >>> ((8 : Int32).toUInt32 &&& Int32.toUInt32 31)).toInt32)) + (((((((((nI y) - ((((nI y).toUInt32 >>> ((1 : Int32).toUInt32 &&& Int32.toUInt32 31)).toInt32) &&& 1431655765)) &&& 858993459) + (((((nI y) - ((((nI y).toUInt32 >>> ((1 : Int32).toUInt32 &&& Int32.toUInt32 31)).toInt32) &&& 1431655765)).toUInt32 >>> ((2 : Int32).toUInt32 &&& Int32.toUInt32 31)).toInt32) &&& 858993459)) + ((((((nI y) - ((((nI y).toUInt32 >>> ((1 : Int32).toUInt32 &&& Int32.toUInt32 31)).toInt32) &&& 1431655765)) &&& 858993459) + (((((nI y) - ((((nI y).toUInt32 >>> ((1 : Int32).toUInt32 &&& Int32.toUInt32 31)).toInt32) &&& 1431655765)).toUInt32 >>> ((2 : Int32).toUInt32 &&& Int32.toUInt32 31)).toInt32) &&& 858993459)).toUInt32 >>> ((4 : Int32).toUInt32 &&& Int32.toUInt32 31)).toInt32)) &&& 252645135) + ((((((((nI y) - ((((nI y).toUInt32 >>> ((1 : Int32).toUInt32 &&& Int32.toUInt32 31)).toInt32) &&& 1431655765)) &&& 858993459) + (((((nI y) - ((((nI y).toUInt32 >>> ((1 : Int32).toUInt32 &&& Int32.toUInt32 31)).toInt32) &&& 1431655765)).toUInt32 >>> ((2 : Int32).toUInt32 &&& Int32.toUInt32 31)).toInt32) &&& 858993459)) + ((((((nI y) - ((((nI y).toUInt32 >>> ((1 : Int32).toUInt32 &&& Int32.toUInt32 31)).toInt32) &&& 1431655765)) &&& 858993459) + (((((nI y) - ((((nI y).toUInt32 >>> ((1 : Int32).toUInt32 &&& Int32.toUInt32 31)).toInt32) &&& 1431655765)).toUInt32 >>> ((2 : Int32).toUInt32 &&& Int32.toUInt32 31)).toInt32) &&& 858993459)).toUInt32 >>> ((4 : Int32).toUInt32 &&& Int32.toUInt32 31)).toInt32)) &&& 252645135).toUInt32 >>> ((8 : Int32).toUInt32 &&& Int32.toUInt32 31)).toInt32)).toUInt32 >>> ((16 : Int32).toUInt32 &&& Int32.toUInt32 31)).toInt32)))], [.int (((((((((nI y) - ((((nI y).toUInt32 >>> ((1 : Int32).toUInt32 &&& Int32.toUInt32 31)).toInt32) &&& 1431655765)) &&& 858993459) + (((((nI y) - ((((nI y).toUInt32 >>> ((1 : Int32).toUInt32 &&& Int32.toUInt32 31)).toInt32) &&& 1431655765)).toUInt32 >>> ((2 : Int32).toUInt32 &&& Int32.toUInt32 31)).toInt32) &&& 858993459)) + ((((((nI y) - ((((nI y).toUInt32 >>> ((1 : Int32).toUInt32 &&& Int32.toUInt32 31)).toInt32) &&& 1431655765)) &&& 858993459) + (((((nI y) - ((((nI y).toUInt32 >>> ((1 : Int32).toUInt32 &&& Int32.toUInt32 31)).toInt32) &&& 1431655765)).toUInt32 >>> ((2 : Int32).toUInt32 &&& Int32.toUInt32 31)).toInt32) &&& 858993459)).toUInt32 >>> ((4 : Int32).toUInt32 &&& Int32.toUInt32 31)).toInt32)) &&& 252645135) + ((((((((nI y) - ((((nI y).toUInt32 >>> ((1 : Int32).toUInt32 &&& Int32.toUInt32 31)).toInt32) &&& 1431655765)) &&& 858993459) + (((((nI y) - ((((nI y).toUInt32 >>> ((1 : Int32).toUInt32 &&& Int32.toUInt32 31)).toInt32) &&& 1431655765)).toUInt32 >>> ((2 : Int32).toUInt32 &&& Int32.toUInt32 31)).toInt32) &&& 858993459)) + ((((((nI y) - ((((nI y).toUInt32 >>> ((1 : Int32).toUInt32 &&& Int32.toUInt32 31)).toInt32) &&& 1431655765)) &&& 858993459) + (((((nI y) - ((((nI y).toUInt32 >>> ((1 : Int32).toUInt32 &&& Int32.toUInt32 31)).toInt32) &&& 1431655765)).toUInt32 >>> ((2 : Int32).toUInt32 &&& Int32.toUInt32 31)).toInt32) &&& 858993459)).toUInt32 >>> ((4 : Int32).toUInt32 &&& Int32.toUInt32 31)).toInt32)) &&& 252645135).toUInt32 >>> ((8 : Int32).toUInt32 &&& Int32.toUInt32 31)).toInt32)) + (((((((((nI y) - ((((nI y).toUInt32 >>> ((1 : Int32).toUInt32 &&& Int32.toUInt32 31)).toInt32) &&& 1431655765)) &&& 858993459) + (((((nI y) - ((((nI y).toUInt32 >>> ((1 : Int32).toUInt32 &&& Int32.toUInt32 31)).toInt32) &&& 1431655765)).toUInt32 >>> ((2 : Int32).toUInt32 &&& Int32.toUInt32 31)).toInt32) &&& 858993459)) + ((((((nI y) - ((((nI y).toUInt32 >>> ((1 : Int32).toUInt32 &&& Int32.toUInt32 31)).toInt32) &&& 1431655765)) &&& 858993459) + (((((nI y) - ((((nI y).toUInt32 >>> ((1 : Int32).toUInt32 &&& Int32.toUInt32 31)).toInt32) &&& 1431655765)).toUInt32 >>> ((2 : Int32).toUInt32 &&& Int32.toUInt32 31)).toInt32) &&& 858993459)).toUInt32 >>> ((4 : Int32).toUInt32 &&& Int32.toUInt32 31)).toInt32)) &&& 252645135) + ((((((((nI y) - ((((nI y).toUInt32 >>> ((1 : Int32).toUInt32 &&& Int32.toUInt32 31)).toInt32) &&& 1431655765)) &&& 858993459) + (((((nI y) - ((((nI y).toUInt32 >>> ((1 : Int32).toUInt32 &&& Int32.toUInt32 31)).toInt32) &&& 1431655765)).toUInt32 >>> ((2 : Int32).toUInt32 &&& Int32.toUInt32 31)).toInt32) &&& 858993459)) + ((((((nI y) - ((((nI y).toUInt32 >>> ((1 : Int32).toUInt32 &&& Int32.toUInt32 31)).toInt32) &&& 1431655765)) &&& 858993459) + (((((nI y) - ((((nI y).toUInt32 >>> ((1 : Int32).toUInt32 &&& Int32.toUInt32 31)).toInt32) &&& 1431655765)).toUInt32 >>> ((2 : Int32).toUInt32 &&& Int32.toUInt32 31)).toInt32) &&& 858993459)).toUInt32 >>> ((4 : Int32).toUInt32 &&& Int32.toUInt32 31)).toInt32)) &&& 252645135).toUInt32 >>> ((8 : Int32).toUInt32 &&& Int32.toUInt32 31)).toInt32)).toUInt32 >>> ((16 : Int32).toUInt32 &&& Int32.toUInt32 31)).toInt32)) &&& 63)], M)) rfl rfl rfl ?_
  exact ps_reti rfl (⟨congrArg (fun x => some (Value.int x)) ((show ∀ y, y < 2048 → (((((((((nI y) - ((((nI y).toUInt32 >>> ((1 : Int32).toUInt32 &&& Int32.toUInt32 31)).toInt32) &&& 1431655765)) &&& 858993459) + (((((nI y) - ((((nI y).toUInt32 >>> ((1 : Int32).toUInt32 &&& Int32.toUInt32 31)).toInt32) &&& 1431655765)).toUInt32 >>> ((2 : Int32).toUInt32 &&& Int32.toUInt32 31)).toInt32) &&& 858993459)) + ((((((nI y) - ((((nI y).toUInt32 >>> ((1 : Int32).toUInt32 &&& Int32.toUInt32 31)).toInt32) &&& 1431655765)) &&& 858993459) + (((((nI y) - ((((nI y).toUInt32 >>> ((1 : Int32).toUInt32 &&& Int32.toUInt32 31)).toInt32) &&& 1431655765)).toUInt32 >>> ((2 : Int32).toUInt32 &&& Int32.toUInt32 31)).toInt32) &&& 858993459)).toUInt32 >>> ((4 : Int32).toUInt32 &&& Int32.toUInt32 31)).toInt32)) &&& 252645135) + ((((((((nI y) - ((((nI y).toUInt32 >>> ((1 : Int32).toUInt32 &&& Int32.toUInt32 31)).toInt32) &&& 1431655765)) &&& 858993459) + (((((nI y) - ((((nI y).toUInt32 >>> ((1 : Int32).toUInt32 &&& Int32.toUInt32 31)).toInt32) &&& 1431655765)).toUInt32 >>> ((2 : Int32).toUInt32 &&& Int32.toUInt32 31)).toInt32) &&& 858993459)) + ((((((nI y) - ((((nI y).toUInt32 >>> ((1 : Int32).toUInt32 &&& Int32.toUInt32 31)).toInt32) &&& 1431655765)) &&& 858993459) + (((((nI y) - ((((nI y).toUInt32 >>> ((1 : Int32).toUInt32 &&& Int32.toUInt32 31)).toInt32) &&& 1431655765)).toUInt32 >>> ((2 : Int32).toUInt32 &&& Int32.toUInt32 31)).toInt32) &&& 858993459)).toUInt32 >>> ((4 : Int32).toUInt32 &&& Int32.toUInt32 31)).toInt32)) &&& 252645135).toUInt32 >>> ((8 : Int32).toUInt32 &&& Int32.toUInt32 31)).toInt32)) + (((((((((nI y) - ((((nI y).toUInt32 >>> ((1 : Int32).toUInt32 &&& Int32.toUInt32 31)).toInt32) &&& 1431655765)) &&& 858993459) + (((((nI y) - ((((nI y).toUInt32 >>> ((1 : Int32).toUInt32 &&& Int32.toUInt32 31)).toInt32) &&& 1431655765)).toUInt32 >>> ((2 : Int32).toUInt32 &&& Int32.toUInt32 31)).toInt32) &&& 858993459)) + ((((((nI y) - ((((nI y).toUInt32 >>> ((1 : Int32).toUInt32 &&& Int32.toUInt32 31)).toInt32) &&& 1431655765)) &&& 858993459) + (((((nI y) - ((((nI y).toUInt32 >>> ((1 : Int32).toUInt32 &&& Int32.toUInt32 31)).toInt32) &&& 1431655765)).toUInt32 >>> ((2 : Int32).toUInt32 &&& Int32.toUInt32 31)).toInt32) &&& 858993459)).toUInt32 >>> ((4 : Int32).toUInt32 &&& Int32.toUInt32 31)).toInt32)) &&& 252645135) + ((((((((nI y) - ((((nI y).toUInt32 >>> ((1 : Int32).toUInt32 &&& Int32.toUInt32 31)).toInt32) &&& 1431655765)) &&& 858993459) + (((((nI y) - ((((nI y).toUInt32 >>> ((1 : Int32).toUInt32 &&& Int32.toUInt32 31)).toInt32) &&& 1431655765)).toUInt32 >>> ((2 : Int32).toUInt32 &&& Int32.toUInt32 31)).toInt32) &&& 858993459)) + ((((((nI y) - ((((nI y).toUInt32 >>> ((1 : Int32).toUInt32 &&& Int32.toUInt32 31)).toInt32) &&& 1431655765)) &&& 858993459) + (((((nI y) - ((((nI y).toUInt32 >>> ((1 : Int32).toUInt32 &&& Int32.toUInt32 31)).toInt32) &&& 1431655765)).toUInt32 >>> ((2 : Int32).toUInt32 &&& Int32.toUInt32 31)).toInt32) &&& 858993459)).toUInt32 >>> ((4 : Int32).toUInt32 &&& Int32.toUInt32 31)).toInt32)) &&& 252645135).toUInt32 >>> ((8 : Int32).toUInt32 &&& Int32.toUInt32 31)).toInt32)).toUInt32 >>> ((16 : Int32).toUInt32 &&& Int32.toUInt32 31)).toInt32)) &&& 63) = nI (popN y) by decide +kernel) y hy), rfl⟩)
set_option maxHeartbeats 1000000 in
theorem dk_ofClass {g : xe_G} {M : mi_H} {f : Nat → Int32} {n N q : Nat} {E : List (Nat × Nat)} {ac c b da vd fr mr fa ic mj na pa : Nat} {mi ru wa s1 k1 : Int32} {e0 bc0 : Nat} {K0 : KT} (h_ac : M.1 ac = some (ob 0 [.ref c, .ref b, .ref q, .ref vd, .int s1])) (h_b : M.1 b = some (ob 1 [.ref da])) (h_da : M.1 da = some (ar .byte n f)) (h_c : M.1 c = some (ob 3 [.ref b, .ref q, .int mi, .int (nI mj), .int (nI fa), .int (nI ic), .ref fr, .ref mr, .int (nI na), .int (nI pa), .int k1, .int (nI bc0), .int (nI K0.2.1), .int (nI K0.2.2.1), .int (nI K0.2.2.2.1), .int (nI K0.2.2.2.2.1), .int K0.2.2.2.2.2])) (h_vd : M.1 vd = some (ob 10 [.int ru, .int wa])) (hn : n ≤ 65540) (hmj : mj < 65536) (hfa : fa + 8 ≤ n) (hna : na < 65536 ∧ pa ≤ n) (hbc : bc0 < 65536) (hat : s_atts f n na pa = .inr e0) (hK0 : K0.1 = 0) (hV : PV g f n N E q M) : pt (mT g) 38 [.ref ac] M (fun v M' => (∃ (bc : Nat) (K : KT) (s2 : Int32), (clS f n E (by2 f fa) mj na pa 0 bc0 = .inr bc) ∧ (bc < 65536) ∧ (clU f n E mj na pa K0 = K) ∧ v = some (.int 1) ∧ M'.1 vd = some (ob 10 [.int ru, .int wa]) ∧ M'.1 ac = some (ob 0 [.ref c, .ref b, .ref q, .ref vd, .int s2]) ∧ M'.1 c = some (ob 3 [.ref b, .ref q, .int mi, .int (nI mj), .int (nI fa), .int (nI ic), .ref fr, .ref mr, .int (nI na), .int (nI pa), .int (nI K.1), .int (nI bc), .int (nI K.2.1), .int (nI K.2.2.1), .int (nI K.2.2.2.1), .int (nI K.2.2.2.2.1), .int K.2.2.2.2.2]) ∧ fm [ac, vd, c] M M') ∨ (∃ (e9 : Nat × Nat), (clS f n E (by2 f fa) mj na pa 0 bc0 = .inl e9) ∧ v = some (.int 0) ∧ M'.1 vd = some (ob 10 [.int (nI e9.1), .int (nI e9.2)]) ∧ fm [ac, vd, c] M M')) := by
  refine pt_in (b := mb_38 g) rfl (fun kf => ?_)
  show pl (mT g) kf (mb_38 g).2 (0, [(0, .ref ac)], [], M) _
  have hF : fm [ac, vd, c] M M := fm.rf
  have LL : ∀ (kf : Nat), (∀ (i p s2 bc : Nat) (K : KT) (M1 : mi_H), (M1.1 ac = some (ob 0 [.ref c, .ref b, .ref q, .ref vd, .int (nI s2)])) → (M1.1 b = some (ob 1 [.ref da])) → (M1.1 da = some (ar .byte n f)) → (M1.1 c = some (ob 3 [.ref b, .ref q, .int mi, .int (nI mj), .int (nI fa), .int (nI ic), .ref fr, .ref mr, .int (nI na), .int (nI pa), .int k1, .int (nI bc), .int (nI K.2.1), .int (nI K.2.2.1), .int (nI K.2.2.2.1), .int (nI K.2.2.2.2.1), .int K.2.2.2.2.2])) → (M1.1 vd = some (ob 10 [.int ru, .int wa])) → (PV g f n N E q M1) → (fm [ac, vd, c] M M1) → (i ≤ na) → (s2 < 2048) → (bc < 65536) → (s_atts f n (na - i) p = .inr e0) → (clS f n E (by2 f fa) mj (na - i) p s2 bc = clS f n E (by2 f fa) mj na pa 0 bc0) → (clU f n E mj (na - i) p K = clU f n E mj na pa K0) → (popN s2 = K.1) →  pl (mT g) kf (mb_38 g).2 (15, [(0, .ref ac), (1, .int (nI p)), (2, .int (nI i))], [], M1) (fun v M' => (∃ (bc : Nat) (K : KT) (s2 : Int32), (clS f n E (by2 f fa) mj na pa 0 bc0 = .inr bc) ∧ (bc < 65536) ∧ (clU f n E mj na pa K0 = K) ∧ v = some (.int 1) ∧ M'.1 vd = some (ob 10 [.int ru, .int wa]) ∧ M'.1 ac = some (ob 0 [.ref c, .ref b, .ref q, .ref vd, .int s2]) ∧ M'.1 c = some (ob 3 [.ref b, .ref q, .int mi, .int (nI mj), .int (nI fa), .int (nI ic), .ref fr, .ref mr, .int (nI na), .int (nI pa), .int (nI K.1), .int (nI bc), .int (nI K.2.1), .int (nI K.2.2.1), .int (nI K.2.2.2.1), .int (nI K.2.2.2.2.1), .int K.2.2.2.2.2]) ∧ fm [ac, vd, c] M M') ∨ (∃ (e9 : Nat × Nat), (clS f n E (by2 f fa) mj na pa 0 bc0 = .inl e9) ∧ v = some (.int 0) ∧ M'.1 vd = some (ob 10 [.int (nI e9.1), .int (nI e9.2)]) ∧ fm [ac, vd, c] M M'))) := by
    intro kf
    induction kf with
    | zero => exact (by intros; exact pl_0)
    | succ kf ih =>
      intro i p s2 bc K M1 hl_ac hl_b hl_da hl_c hl_vd hV1 hF1 hi hl hb ha hs9 hu hpc
      refine ps_st1 (S' := (16, [(0, .ref ac), (1, .int (nI p)), (2, .int (nI i))], [.int (nI i)], M1)) rfl rfl rfl ?_
      refine ps_st (S' := (17, [(0, .ref ac), (1, .int (nI p)), (2, .int (nI i))], [.ref ac, .int (nI i)], M1)) rfl rfl rfl ?_
      refine ps_get (S' := (20, [(0, .ref ac), (1, .int (nI p)), (2, .int (nI i))], [.ref c, .int (nI i)], M1)) rfl hl_ac rfl rfl ?_
      refine ps_get (S' := (23, [(0, .ref ac), (1, .int (nI p)), (2, .int (nI i))], [.int (nI na), .int (nI i)], M1)) rfl hl_c rfl rfl ?_
      refine ps_if2 (S1 := (132, [(0, .ref ac), (1, .int (nI p)), (2, .int (nI i))], [], M1)) (S2 := (26, [(0, .ref ac), (1, .int (nI p)), (2, .int (nI i))], [], M1)) rfl rfl rfl (fun c_23 => ?_) (fun c_23 => ?_)
      · have c_23 : (nI na) ≤ (nI i) := of_decide_eq_true c_23
        have n_23 : na ≤ i := (le_nI (p := na) (n := i) (by omega) (by omega)).mp c_23
        refine ps_st (S' := (133, [(0, .ref ac), (1, .int (nI p)), (2, .int (nI i))], [.ref ac], M1)) rfl rfl rfl ?_
        refine ps_get (S' := (136, [(0, .ref ac), (1, .int (nI p)), (2, .int (nI i))], [.ref c], M1)) rfl hl_ac rfl rfl ?_
        refine ps_st (S' := (137, [(0, .ref ac), (1, .int (nI p)), (2, .int (nI i))], [.ref ac, .ref c], M1)) rfl rfl rfl ?_
        refine ps_get (S' := (140, [(0, .ref ac), (1, .int (nI p)), (2, .int (nI i))], [.int (nI s2), .ref c], M1)) rfl hl_ac rfl rfl ?_
        refine pl_call (a := [.int (nI s2)]) (rest := [.ref c]) rfl rfl rfl (dk_bitCountN (y := s2) (by omega)) (fun v1 M2 q3 => ?_)
        obtain ⟨rfl, rfl⟩ := q3
        show pl _ _ _ (143, [(0, .ref ac), (1, .int (nI p)), (2, .int (nI i))], [.int (nI (popN s2)), .ref c], M1) _
        refine ps_put (l' := [.ref b, .ref q, .int mi, .int (nI mj), .int (nI fa), .int (nI ic), .ref fr, .ref mr, .int (nI na), .int (nI pa), .int (nI (popN s2)), .int (nI bc), .int (nI K.2.1), .int (nI K.2.2.1), .int (nI K.2.2.2.1), .int (nI K.2.2.2.2.1), .int K.2.2.2.2.2]) rfl hl_c rfl rfl (fun M4 h5 f6 z7 => ?_)
        have h8 := (f6 ac (ob_ne hl_ac hl_c (by decide))).trans hl_ac
        have h9 := (f6 b (ob_ne hl_b hl_c (by decide))).trans hl_b
        have h10 := (f6 da (Ne.symm (ob_ar hl_c hl_da))).trans hl_da
        have h11 := (f6 vd (ob_ne hl_vd hl_c (by decide))).trans hl_vd
        have hV12 := hV1.put hl_c (by decide) f6 z7
        have hF13 := hF1.up (by simp) f6 z7
        show pl _ _ _ (146, [(0, .ref ac), (1, .int (nI p)), (2, .int (nI i))], [], M4) _
        refine ps_st (S' := (147, [(0, .ref ac), (1, .int (nI p)), (2, .int (nI i))], [.int 1], M4)) rfl rfl rfl ?_
        exact ps_ret rfl rfl (Or.inl ⟨bc, K, _, by rw [← hs9, show na - i = 0 by omega]; rfl, hb, by rw [← hu, show na - i = 0 by omega]; rfl, rfl, h11, h8, by rw [← hpc]; exact h5, hF13⟩)
      · have c_23 : ¬ ((nI na) ≤ (nI i)) := of_decide_eq_false c_23
        have n_23 : ¬ (na ≤ i) := fun h9 => c_23 ((le_nI (p := na) (n := i) (by omega) (by omega)).mpr h9)
        obtain ⟨hq5, hq6, hq7⟩ := s_atts_in (i := i) (p := p) ha (by omega)
        refine ps_st (S' := (27, [(0, .ref ac), (1, .int (nI p)), (2, .int (nI i))], [.ref ac], M1)) rfl rfl rfl ?_
        refine ps_st (S' := (28, [(0, .ref ac), (1, .int (nI p)), (2, .int (nI i))], [.ref ac, .ref ac], M1)) rfl rfl rfl ?_
        refine ps_get (S' := (31, [(0, .ref ac), (1, .int (nI p)), (2, .int (nI i))], [.ref b, .ref ac], M1)) rfl hl_ac rfl rfl ?_
        refine ps_st (S' := (32, [(0, .ref ac), (1, .int (nI p)), (2, .int (nI i))], [.int (nI p), .ref b, .ref ac], M1)) rfl rfl rfl ?_
        refine pl_call (a := [.ref b, .int (nI p)]) (rest := [.ref ac]) rfl rfl rfl (dk_u2 (f := f) (n := n) (b := b) (da := da) (p := p) hl_b hl_da (hn) (by omega)) (fun v14 M15 q16 => ?_)
        obtain ⟨rfl, rfl⟩ := q16
        show pl _ _ _ (35, [(0, .ref ac), (1, .int (nI p)), (2, .int (nI i))], [.int (nI (by2 f p)), .ref ac], M1) _
        have hu_32 := by2_lt f p
        refine pl_call (a := [.ref ac, .int (nI (by2 f p))]) (rest := []) rfl rfl rfl (dk_classKind (f := f) (n := n) (N := N) (q := q) (E := E) (ac := ac) (c := c) (b := b) (da := da) (vd := vd) (fr := fr) (mr := mr) (fa := fa) (ic := ic) (mj := mj) (na := na) (pa := pa) (mi := mi) (ru := ru) (wa := wa) (s1 := (nI s2)) (k1 := k1) (k2 := (nI bc)) (k3 := (nI K.2.1)) (k4 := (nI K.2.2.1)) (k5 := (nI K.2.2.2.1)) (k6 := (nI K.2.2.2.2.1)) (k7 := K.2.2.2.2.2) (x := (by2 f p)) hl_ac hl_b hl_da hl_c (hn) (hmj) (by2_lt _ _) (hV1)) (fun v17 M18 q19 => ?_)
        obtain ⟨rfl, rfl⟩ := q19
        show pl _ _ _ (38, [(0, .ref ac), (1, .int (nI p)), (2, .int (nI i))], [.int (nI (ckN f n E mj (by2 f p)))], M1) _
        have hk8 := le_ck f n E mj (by2 f p)
        refine ps_st (S' := (39, [(3, .int (nI (ckN f n E mj (by2 f p)))), (0, .ref ac), (1, .int (nI p)), (2, .int (nI i))], [], M1)) rfl rfl rfl ?_
        refine ps_st (S' := (40, [(3, .int (nI (ckN f n E mj (by2 f p)))), (0, .ref ac), (1, .int (nI p)), (2, .int (nI i))], [.ref ac], M1)) rfl rfl rfl ?_
        refine ps_st (S' := (41, [(3, .int (nI (ckN f n E mj (by2 f p)))), (0, .ref ac), (1, .int (nI p)), (2, .int (nI i))], [.int (nI p), .ref ac], M1)) rfl rfl rfl ?_
        refine ps_st (S' := (42, [(3, .int (nI (ckN f n E mj (by2 f p)))), (0, .ref ac), (1, .int (nI p)), (2, .int (nI i))], [.int (nI (ckN f n E mj (by2 f p))), .int (nI p), .ref ac], M1)) rfl rfl rfl ?_
        refine pl_call (a := [.ref ac, .int (nI p), .int (nI (ckN f n E mj (by2 f p)))]) (rest := []) rfl rfl rfl (dk_isNew (f := f) (n := n) (N := N) (q := q) (E := E) (ac := ac) (c := c) (b := b) (da := da) (vd := vd) (fr := fr) (mr := mr) (fa := fa) (ic := ic) (mj := mj) (na := na) (pa := pa) (mi := mi) (ru := ru) (wa := wa) (k1 := k1) (k2 := (nI bc)) (k3 := (nI K.2.1)) (k4 := (nI K.2.2.1)) (k5 := (nI K.2.2.2.1)) (k6 := (nI K.2.2.2.2.1)) (k7 := K.2.2.2.2.2) (s := s2) (k := (ckN f n E mj (by2 f p))) (p := p) hl_ac hl_b hl_da hl_vd (hn) (by omega) (by omega) (by omega) (hV1)) (fun v20 M21 q22 => ?_)
        rcases q22 with q22 | q22
        · skip
          obtain ⟨e23, q42_s, rfl, h24, f25⟩ := q22
          have h27 := (f25.1 b (nin2 (ob_ne hl_b hl_ac (by decide)) (ob_ne hl_b hl_vd (by decide)))).trans hl_b
          have h28 := (f25.1 da (nin2 (Ne.symm (ob_ar hl_ac hl_da)) (Ne.symm (ob_ar hl_vd hl_da)))).trans hl_da
          have h29 := (f25.1 c (nin2 (ob_ne hl_c hl_ac (by decide)) (ob_ne hl_c hl_vd (by decide)))).trans hl_c
          have hF30 := hF1.tr f25 (by simp)
          have hV31 := hV1.keep f25.gm (n7c hl_ac (by decide) (n7c hl_vd (by decide) (n7nil)))
          show pl _ _ _ (45, [(3, .int (nI (ckN f n E mj (by2 f p)))), (0, .ref ac), (1, .int (nI p)), (2, .int (nI i))], [.int 0], M21) _
          refine ps_if (S1 := (50, [(3, .int (nI (ckN f n E mj (by2 f p)))), (0, .ref ac), (1, .int (nI p)), (2, .int (nI i))], [], M21)) (S2 := (48, [(3, .int (nI (ckN f n E mj (by2 f p)))), (0, .ref ac), (1, .int (nI p)), (2, .int (nI i))], [], M21)) rfl rfl rfl (fun c_45 => ?_) (fun c_45 => ?_)
          · exact absurd (of_decide_eq_true c_45) (by decide)
          refine ps_st (S' := (49, [(3, .int (nI (ckN f n E mj (by2 f p)))), (0, .ref ac), (1, .int (nI p)), (2, .int (nI i))], [.int 0], M21)) rfl rfl rfl ?_
          exact ps_ret rfl rfl (Or.inr ⟨e23, by
              rw [← hs9, clS_st (i := i) (by omega), q42_s], rfl, h24, hF30⟩)
        · skip
          obtain ⟨s'32, q42_s, q42_l, rfl, h33, h34, f35⟩ := q22
          have h37 := (f35.1 b (nin2 (ob_ne hl_b hl_ac (by decide)) (ob_ne hl_b hl_vd (by decide)))).trans hl_b
          have h38 := (f35.1 da (nin2 (Ne.symm (ob_ar hl_ac hl_da)) (Ne.symm (ob_ar hl_vd hl_da)))).trans hl_da
          have h39 := (f35.1 c (nin2 (ob_ne hl_c hl_ac (by decide)) (ob_ne hl_c hl_vd (by decide)))).trans hl_c
          have hF40 := hF1.tr f35 (by simp)
          have hV41 := hV1.keep f35.gm (n7c hl_ac (by decide) (n7c hl_vd (by decide) (n7nil)))
          show pl _ _ _ (45, [(3, .int (nI (ckN f n E mj (by2 f p)))), (0, .ref ac), (1, .int (nI p)), (2, .int (nI i))], [.int 1], M21) _
          refine ps_if (S1 := (50, [(3, .int (nI (ckN f n E mj (by2 f p)))), (0, .ref ac), (1, .int (nI p)), (2, .int (nI i))], [], M21)) (S2 := (48, [(3, .int (nI (ckN f n E mj (by2 f p)))), (0, .ref ac), (1, .int (nI p)), (2, .int (nI i))], [], M21)) rfl rfl rfl (fun c_45 => ?_) (fun c_45 => ?_)
          rotate_left
          · exact absurd (by decide) (of_decide_eq_false c_45)
          refine ps_st (S' := (51, [(3, .int (nI (ckN f n E mj (by2 f p)))), (0, .ref ac), (1, .int (nI p)), (2, .int (nI i))], [.int (nI (ckN f n E mj (by2 f p)))], M21)) rfl rfl rfl ?_
          refine ps_if (S1 := (87, [(0, .ref ac), (1, .int (nI p)), (2, .int (nI i)), (3, .int (nI (ckN f n E mj (by2 f p))))], [], M21)) (S2 := (54, [(3, .int (nI (ckN f n E mj (by2 f p)))), (0, .ref ac), (1, .int (nI p)), (2, .int (nI i))], [], M21)) rfl rfl rfl (fun c_51 => ?_) (fun c_51 => ?_)
          · have c_51 : (nI (ckN f n E mj (by2 f p))) = 0 := of_decide_eq_true c_51
            have n_51 : ckN f n E mj (by2 f p) = 0 := (eq_nI (p := ckN f n E mj (by2 f p)) (n := 0) (Nat.lt_trans (le_ck _ _ _ _ _) (by decide)) (by decide)).mp c_51
            refine ps_st (S' := (88, [(0, .ref ac), (1, .int (nI p)), (2, .int (nI i)), (3, .int (nI (ckN f n E mj (by2 f p))))], [.ref ac], M21)) rfl rfl rfl ?_
            refine ps_st (S' := (89, [(0, .ref ac), (1, .int (nI p)), (2, .int (nI i)), (3, .int (nI (ckN f n E mj (by2 f p))))], [.int (nI (ckN f n E mj (by2 f p))), .ref ac], M21)) rfl rfl rfl ?_
            refine ps_st (S' := (90, [(0, .ref ac), (1, .int (nI p)), (2, .int (nI i)), (3, .int (nI (ckN f n E mj (by2 f p))))], [.int (nI p), .int (nI (ckN f n E mj (by2 f p))), .ref ac], M21)) rfl rfl rfl ?_
            refine pl_call (a := [.ref ac, .int (nI (ckN f n E mj (by2 f p))), .int (nI p)]) (rest := []) rfl rfl rfl (dk_brokenRule2 (f := f) (n := n) (N := N) (q := q) (E := E) (ac := ac) (c := c) (b := b) (da := da) (vd := vd) (fr := fr) (mr := mr) (fa := fa) (ic := ic) (mj := mj) (na := na) (pa := pa) (mi := mi) (ru := ru) (wa := wa) (k1 := k1) (k7 := K.2.2.2.2.2) (k := (ckN f n E mj (by2 f p))) (p := p) (e := (p + 6 + by4 f (p + 2))) (s := (s'32)) (bc := bc) (bp := (K.2.1)) (i4 := (K.2.2.1)) (i5 := (K.2.2.2.1)) (i6 := (K.2.2.2.2.1)) h33 h37 h38 h39 h34 (hn) (hmj) (hfa) (by omega) (hk8) (by omega) (by omega) (fun h => absurd n_51 h) (hV41)) (fun v42 M43 q44 => ?_)
            rcases q44 with q44 | q44 | q44
            · skip
              obtain ⟨q90_s, rfl, h45, h46, f47⟩ := q44
              have h49 := (f47.1 ac (nin2 (ob_ne h33 h39 (by decide)) (ob_ne h33 h34 (by decide)))).trans h33
              have h50 := (f47.1 b (nin2 (ob_ne h37 h39 (by decide)) (ob_ne h37 h34 (by decide)))).trans h37
              have h51 := (f47.1 da (nin2 (Ne.symm (ob_ar h39 h38)) (Ne.symm (ob_ar h34 h38)))).trans h38
              have hF52 := hF40.tr f47 (by simp)
              have hV53 := hV41.keep f47.gm (n7c h39 (by decide) (n7c h34 (by decide) (n7nil)))
              show pl _ _ _ (93, [(0, .ref ac), (1, .int (nI p)), (2, .int (nI i)), (3, .int (nI (ckN f n E mj (by2 f p))))], [.int 0], M43) _
              refine ps_st (S' := (95, [(4, .int 0), (0, .ref ac), (1, .int (nI p)), (2, .int (nI i)), (3, .int (nI (ckN f n E mj (by2 f p))))], [], M43)) rfl rfl rfl ?_
              refine ps_st (S' := (97, [(4, .int 0), (0, .ref ac), (1, .int (nI p)), (2, .int (nI i)), (3, .int (nI (ckN f n E mj (by2 f p))))], [.int 0], M43)) rfl rfl rfl ?_
              refine ps_if (S1 := (120, [(4, .int 0), (0, .ref ac), (1, .int (nI p)), (2, .int (nI i)), (3, .int (nI (ckN f n E mj (by2 f p))))], [], M43)) (S2 := (100, [(4, .int 0), (0, .ref ac), (1, .int (nI p)), (2, .int (nI i)), (3, .int (nI (ckN f n E mj (by2 f p))))], [], M43)) rfl rfl rfl (fun c_97 => ?_) (fun c_97 => ?_)
              rotate_left
              · exact absurd (by decide) (of_decide_eq_false c_97)
              refine ps_st (S' := (121, [(4, .int 0), (0, .ref ac), (1, .int (nI p)), (2, .int (nI i)), (3, .int (nI (ckN f n E mj (by2 f p))))], [.ref ac], M43)) rfl rfl rfl ?_
              refine ps_st (S' := (122, [(4, .int 0), (0, .ref ac), (1, .int (nI p)), (2, .int (nI i)), (3, .int (nI (ckN f n E mj (by2 f p))))], [.int (nI p), .ref ac], M43)) rfl rfl rfl ?_
              refine pl_call (a := [.ref ac, .int (nI p)]) (rest := []) rfl rfl rfl (dk_behind (f := f) (n := n) (q := q) (ac := ac) (c := c) (b := b) (da := da) (vd := vd) (s1 := (nI s'32)) (p := p) h49 h50 h51 (hn) (by omega)) (fun v54 M55 q56 => ?_)
              obtain ⟨rfl, rfl⟩ := q56
              show pl _ _ _ (125, [(4, .int 0), (0, .ref ac), (1, .int (nI p)), (2, .int (nI i)), (3, .int (nI (ckN f n E mj (by2 f p))))], [.int (nI (p + 6 + by4 f (p + 2)))], M43) _
              refine ps_st (S' := (126, [(1, .int (nI (p + 6 + by4 f (p + 2)))), (4, .int 0), (0, .ref ac), (2, .int (nI i)), (3, .int (nI (ckN f n E mj (by2 f p))))], [], M43)) rfl rfl rfl ?_
              refine ps_st (S' := (129, [(2, .int ((nI i) + 1)), (1, .int (nI (p + 6 + by4 f (p + 2)))), (4, .int 0), (0, .ref ac), (3, .int (nI (ckN f n E mj (by2 f p))))], [], M43)) rfl rfl rfl ?_
              rw [nI_add1 (p := i) (k := 1) (x := 1) rfl (by omega)]
              show pl _ _ _ (_, [(2, .int (nI (i + 1))), (1, .int (nI (p + 6 + by4 f (p + 2)))), (4, .int 0), (0, .ref ac), (3, .int (nI (ckN f n E mj (by2 f p))))], [], M43) _
              refine ps_st (S' := (15, [(0, .ref ac), (1, .int (nI (p + 6 + by4 f (p + 2)))), (2, .int (nI (i + 1)))], [], M43)) rfl rfl rfl ?_
              exact ih (i + 1) (p + 6 + by4 f (p + 2)) ((s'32)) (if (ckN f n E mj (by2 f p)) = 6 then by2 f (p + 6) else bc) (stU f (ckN f n E mj (by2 f p)) p K) M43 h49 h50 h51 h46 h45 hV53 hF52 (by omega) (q42_l) (by
                  have := by2_lt f (p + 6)
                  split <;> omega) (hq7) (by
                  rw [← hs9, clS_st (i := i) (by omega), q42_s]
                  dsimp only
                  rw [if_neg (c := ¬ (ckN f n E mj (by2 f p)) = 0 ∧ ¬ s_fe f (ckN f n E mj (by2 f p)) (p + 6) (p + 6 + by4 f (p + 2)) = some (p + 6 + by4 f (p + 2))) (fun h => h.1 n_51)]
                  rw [q90_s]) (by
                  rw [← hu, clU_st (i := i) (by omega)]) (by
                  rw [nw_pop q42_s (by omega), hpc]
                  rfl)
            · skip
              obtain ⟨r957, q90_s, q90_l, rfl, h58, f59⟩ := q44
              have h61 := (f59.1 ac (nin2 (ob_ne h33 h39 (by decide)) (ob_ne h33 h34 (by decide)))).trans h33
              have h62 := (f59.1 b (nin2 (ob_ne h37 h39 (by decide)) (ob_ne h37 h34 (by decide)))).trans h37
              have h63 := (f59.1 da (nin2 (Ne.symm (ob_ar h39 h38)) (Ne.symm (ob_ar h34 h38)))).trans h38
              have hF64 := hF40.tr f59 (by simp)
              have hV65 := hV41.keep f59.gm (n7c h39 (by decide) (n7c h34 (by decide) (n7nil)))
              show pl _ _ _ (93, [(0, .ref ac), (1, .int (nI p)), (2, .int (nI i)), (3, .int (nI (ckN f n E mj (by2 f p))))], [.int (nI r957)], M43) _
              refine ps_st (S' := (95, [(4, .int (nI r957)), (0, .ref ac), (1, .int (nI p)), (2, .int (nI i)), (3, .int (nI (ckN f n E mj (by2 f p))))], [], M43)) rfl rfl rfl ?_
              refine ps_st (S' := (97, [(4, .int (nI r957)), (0, .ref ac), (1, .int (nI p)), (2, .int (nI i)), (3, .int (nI (ckN f n E mj (by2 f p))))], [.int (nI r957)], M43)) rfl rfl rfl ?_
              refine ps_if (S1 := (120, [(4, .int (nI r957)), (0, .ref ac), (1, .int (nI p)), (2, .int (nI i)), (3, .int (nI (ckN f n E mj (by2 f p))))], [], M43)) (S2 := (100, [(4, .int (nI r957)), (0, .ref ac), (1, .int (nI p)), (2, .int (nI i)), (3, .int (nI (ckN f n E mj (by2 f p))))], [], M43)) rfl rfl rfl (fun c_97 => ?_) (fun c_97 => ?_)
              · exact absurd (of_decide_eq_true c_97) (fun h9 => absurd ((eq_nI (p := r957) (n := 0) (by omega) (by decide)).mp h9) (by omega))
              refine ps_st (S' := (102, [(4, .int (nI r957)), (0, .ref ac), (1, .int (nI p)), (2, .int (nI i)), (3, .int (nI (ckN f n E mj (by2 f p))))], [.int (nI r957)], M43)) rfl rfl rfl ?_
              refine ps_if (S1 := (109, [(4, .int (nI r957)), (0, .ref ac), (1, .int (nI p)), (2, .int (nI i)), (3, .int (nI (ckN f n E mj (by2 f p))))], [], M43)) (S2 := (105, [(4, .int (nI r957)), (0, .ref ac), (1, .int (nI p)), (2, .int (nI i)), (3, .int (nI (ckN f n E mj (by2 f p))))], [], M43)) rfl rfl rfl (fun c_102 => ?_) (fun c_102 => ?_)
              rotate_left
              · exact absurd (Int32.not_lt.mp (nI_n0 (by omega))) (of_decide_eq_false c_102)
              refine ps_st (S' := (110, [(4, .int (nI r957)), (0, .ref ac), (1, .int (nI p)), (2, .int (nI i)), (3, .int (nI (ckN f n E mj (by2 f p))))], [.ref ac], M43)) rfl rfl rfl ?_
              refine ps_get (S' := (113, [(4, .int (nI r957)), (0, .ref ac), (1, .int (nI p)), (2, .int (nI i)), (3, .int (nI (ckN f n E mj (by2 f p))))], [.ref vd], M43)) rfl h61 rfl rfl ?_
              refine ps_st (S' := (115, [(4, .int (nI r957)), (0, .ref ac), (1, .int (nI p)), (2, .int (nI i)), (3, .int (nI (ckN f n E mj (by2 f p))))], [.int (nI r957), .ref vd], M43)) rfl rfl rfl ?_
              refine ps_st (S' := (116, [(4, .int (nI r957)), (0, .ref ac), (1, .int (nI p)), (2, .int (nI i)), (3, .int (nI (ckN f n E mj (by2 f p))))], [.int (nI p), .int (nI r957), .ref vd], M43)) rfl rfl rfl ?_
              refine pl_call (a := [.ref vd, .int (nI r957), .int (nI p)]) (rest := []) rfl rfl rfl (dk_wrong (vd := vd) (ru := ru) (wa := wa) (x1 := (nI r957)) (x2 := (nI p)) h58) (fun v66 M67 q68 => ?_)
              obtain ⟨rfl, h69, f70⟩ := q68
              have h72 := (f70.1 ac (nin1 (ob_ne h61 h58 (by decide)))).trans h61
              have h73 := (f70.1 b (nin1 (ob_ne h62 h58 (by decide)))).trans h62
              have h74 := (f70.1 da (nin1 (Ne.symm (ob_ar h58 h63)))).trans h63
              have hF75 := hF64.tr f70 (by simp)
              have hV76 := hV65.keep f70.gm (n7c h58 (by decide) (n7nil))
              show pl _ _ _ (119, [], [.int 0], M67) _
              exact ps_ret rfl rfl (Or.inr ⟨(r957, p), by
                  rw [← hs9, clS_st (i := i) (by omega), q42_s]
                  dsimp only
                  rw [if_neg (c := ¬ (ckN f n E mj (by2 f p)) = 0 ∧ ¬ s_fe f (ckN f n E mj (by2 f p)) (p + 6) (p + 6 + by4 f (p + 2)) = some (p + 6 + by4 f (p + 2))) (fun h => h.1 n_51)]
                  rw [q90_s], rfl, h69, hF75⟩)
            · skip
              obtain ⟨e977, q90_s, rfl, h78, f79⟩ := q44
              have h81 := (f79.1 ac (nin2 (ob_ne h33 h39 (by decide)) (ob_ne h33 h34 (by decide)))).trans h33
              have h82 := (f79.1 b (nin2 (ob_ne h37 h39 (by decide)) (ob_ne h37 h34 (by decide)))).trans h37
              have h83 := (f79.1 da (nin2 (Ne.symm (ob_ar h39 h38)) (Ne.symm (ob_ar h34 h38)))).trans h38
              have hF84 := hF40.tr f79 (by simp)
              have hV85 := hV41.keep f79.gm (n7c h39 (by decide) (n7c h34 (by decide) (n7nil)))
              show pl _ _ _ (93, [(0, .ref ac), (1, .int (nI p)), (2, .int (nI i)), (3, .int (nI (ckN f n E mj (by2 f p))))], [.int (-1)], M43) _
              refine ps_st (S' := (95, [(4, .int (-1)), (0, .ref ac), (1, .int (nI p)), (2, .int (nI i)), (3, .int (nI (ckN f n E mj (by2 f p))))], [], M43)) rfl rfl rfl ?_
              refine ps_st (S' := (97, [(4, .int (-1)), (0, .ref ac), (1, .int (nI p)), (2, .int (nI i)), (3, .int (nI (ckN f n E mj (by2 f p))))], [.int (-1)], M43)) rfl rfl rfl ?_
              refine ps_if (S1 := (120, [(4, .int (-1)), (0, .ref ac), (1, .int (nI p)), (2, .int (nI i)), (3, .int (nI (ckN f n E mj (by2 f p))))], [], M43)) (S2 := (100, [(4, .int (-1)), (0, .ref ac), (1, .int (nI p)), (2, .int (nI i)), (3, .int (nI (ckN f n E mj (by2 f p))))], [], M43)) rfl rfl rfl (fun c_97 => ?_) (fun c_97 => ?_)
              · exact absurd (of_decide_eq_true c_97) (by decide)
              refine ps_st (S' := (102, [(4, .int (-1)), (0, .ref ac), (1, .int (nI p)), (2, .int (nI i)), (3, .int (nI (ckN f n E mj (by2 f p))))], [.int (-1)], M43)) rfl rfl rfl ?_
              refine ps_if (S1 := (109, [(4, .int (-1)), (0, .ref ac), (1, .int (nI p)), (2, .int (nI i)), (3, .int (nI (ckN f n E mj (by2 f p))))], [], M43)) (S2 := (105, [(4, .int (-1)), (0, .ref ac), (1, .int (nI p)), (2, .int (nI i)), (3, .int (nI (ckN f n E mj (by2 f p))))], [], M43)) rfl rfl rfl (fun c_102 => ?_) (fun c_102 => ?_)
              · exact absurd (of_decide_eq_true c_102) (by decide)
              refine ps_st (S' := (106, [(4, .int (-1)), (0, .ref ac), (1, .int (nI p)), (2, .int (nI i)), (3, .int (nI (ckN f n E mj (by2 f p))))], [.int 0], M43)) rfl rfl rfl ?_
              refine ps_st (S' := (119, [], [.int 0], M43)) rfl rfl rfl ?_
              exact ps_ret rfl rfl (Or.inr ⟨e977, by
                  rw [← hs9, clS_st (i := i) (by omega), q42_s]
                  dsimp only
                  rw [if_neg (c := ¬ (ckN f n E mj (by2 f p)) = 0 ∧ ¬ s_fe f (ckN f n E mj (by2 f p)) (p + 6) (p + 6 + by4 f (p + 2)) = some (p + 6 + by4 f (p + 2))) (fun h => h.1 n_51)]
                  rw [q90_s], rfl, h78, hF84⟩)
          · have c_51 : ¬ ((nI (ckN f n E mj (by2 f p))) = 0) := of_decide_eq_false c_51
            have n_51 : ¬ (ckN f n E mj (by2 f p) = 0) := fun h9 => c_51 ((eq_nI (p := ckN f n E mj (by2 f p)) (n := 0) (Nat.lt_trans (le_ck _ _ _ _ _) (by decide)) (by decide)).mpr h9)
            refine ps_st (S' := (55, [(3, .int (nI (ckN f n E mj (by2 f p)))), (0, .ref ac), (1, .int (nI p)), (2, .int (nI i))], [.ref ac], M21)) rfl rfl rfl ?_
            refine ps_st (S' := (56, [(3, .int (nI (ckN f n E mj (by2 f p)))), (0, .ref ac), (1, .int (nI p)), (2, .int (nI i))], [.int (nI (ckN f n E mj (by2 f p))), .ref ac], M21)) rfl rfl rfl ?_
            refine ps_st (S' := (57, [(3, .int (nI (ckN f n E mj (by2 f p)))), (0, .ref ac), (1, .int (nI p)), (2, .int (nI i))], [.int (nI p), .int (nI (ckN f n E mj (by2 f p))), .ref ac], M21)) rfl rfl rfl ?_
            refine ps_st (S' := (59, [(3, .int (nI (ckN f n E mj (by2 f p)))), (0, .ref ac), (1, .int (nI p)), (2, .int (nI i))], [.int 6, .int (nI p), .int (nI (ckN f n E mj (by2 f p))), .ref ac], M21)) rfl rfl rfl ?_
            refine ps_st (S' := (60, [(3, .int (nI (ckN f n E mj (by2 f p)))), (0, .ref ac), (1, .int (nI p)), (2, .int (nI i))], [.int ((nI p) + 6), .int (nI (ckN f n E mj (by2 f p))), .ref ac], M21)) rfl rfl rfl ?_
            rw [nI_add1 (p := p) (k := 6) (x := 6) rfl (by omega)]
            show pl _ _ _ (_, [(3, .int (nI (ckN f n E mj (by2 f p)))), (0, .ref ac), (1, .int (nI p)), (2, .int (nI i))], [.int (nI (p + 6)), .int (nI (ckN f n E mj (by2 f p))), .ref ac], M21) _
            refine ps_st (S' := (61, [(3, .int (nI (ckN f n E mj (by2 f p)))), (0, .ref ac), (1, .int (nI p)), (2, .int (nI i))], [.ref ac, .int (nI (p + 6)), .int (nI (ckN f n E mj (by2 f p))), .ref ac], M21)) rfl rfl rfl ?_
            refine ps_st (S' := (62, [(3, .int (nI (ckN f n E mj (by2 f p)))), (0, .ref ac), (1, .int (nI p)), (2, .int (nI i))], [.int (nI p), .ref ac, .int (nI (p + 6)), .int (nI (ckN f n E mj (by2 f p))), .ref ac], M21)) rfl rfl rfl ?_
            refine pl_call (a := [.ref ac, .int (nI p)]) (rest := [.int (nI (p + 6)), .int (nI (ckN f n E mj (by2 f p))), .ref ac]) rfl rfl rfl (dk_behind (f := f) (n := n) (q := q) (ac := ac) (c := c) (b := b) (da := da) (vd := vd) (s1 := (nI s'32)) (p := p) h33 h37 h38 (hn) (by omega)) (fun v86 M87 q88 => ?_)
            obtain ⟨rfl, rfl⟩ := q88
            show pl _ _ _ (65, [(3, .int (nI (ckN f n E mj (by2 f p)))), (0, .ref ac), (1, .int (nI p)), (2, .int (nI i))], [.int (nI (p + 6 + by4 f (p + 2))), .int (nI (p + 6)), .int (nI (ckN f n E mj (by2 f p))), .ref ac], M21) _
            refine pl_call (a := [.ref ac, .int (nI (ckN f n E mj (by2 f p))), .int (nI (p + 6)), .int (nI (p + 6 + by4 f (p + 2)))]) (rest := []) rfl rfl rfl (dk_formEnd (f := f) (n := n) (q := q) (ac := ac) (c := c) (b := b) (da := da) (vd := vd) (s1 := (nI s'32)) (k := (ckN f n E mj (by2 f p))) (p0 := (p + 6)) (e := (p + 6 + by4 f (p + 2))) h33 h37 h38 (hn) (by omega) (by omega)) (fun v89 M90 q91 => ?_)
            rcases q91 with q91 | q91
            · skip
              obtain ⟨q65_s, rfl, rfl⟩ := q91
              show pl _ _ _ (68, [(3, .int (nI (ckN f n E mj (by2 f p)))), (0, .ref ac), (1, .int (nI p)), (2, .int (nI i))], [.int (-1)], M21) _
              refine ps_st (S' := (69, [(3, .int (nI (ckN f n E mj (by2 f p)))), (0, .ref ac), (1, .int (nI p)), (2, .int (nI i))], [.ref ac, .int (-1)], M21)) rfl rfl rfl ?_
              refine ps_st (S' := (70, [(3, .int (nI (ckN f n E mj (by2 f p)))), (0, .ref ac), (1, .int (nI p)), (2, .int (nI i))], [.int (nI p), .ref ac, .int (-1)], M21)) rfl rfl rfl ?_
              refine pl_call (a := [.ref ac, .int (nI p)]) (rest := [.int (-1)]) rfl rfl rfl (dk_behind (f := f) (n := n) (q := q) (ac := ac) (c := c) (b := b) (da := da) (vd := vd) (s1 := (nI s'32)) (p := p) h33 h37 h38 (hn) (by omega)) (fun v92 M93 q94 => ?_)
              obtain ⟨rfl, rfl⟩ := q94
              show pl _ _ _ (73, [(3, .int (nI (ckN f n E mj (by2 f p)))), (0, .ref ac), (1, .int (nI p)), (2, .int (nI i))], [.int (nI (p + 6 + by4 f (p + 2))), .int (-1)], M21) _
              refine ps_if2 (S1 := (87, [(0, .ref ac), (1, .int (nI p)), (2, .int (nI i)), (3, .int (nI (ckN f n E mj (by2 f p))))], [], M21)) (S2 := (76, [(3, .int (nI (ckN f n E mj (by2 f p)))), (0, .ref ac), (1, .int (nI p)), (2, .int (nI i))], [], M21)) rfl rfl rfl (fun c_73 => ?_) (fun c_73 => ?_)
              · exact absurd (of_decide_eq_true c_73) (m1_ne (by omega))
              have hfe : ¬ s_fe f (ckN f n E mj (by2 f p)) (p + 6) (p + 6 + by4 f (p + 2)) = some (p + 6 + by4 f (p + 2)) := by rw [q65_s]; exact fun h => by cases h
              refine ps_st (S' := (77, [(3, .int (nI (ckN f n E mj (by2 f p)))), (0, .ref ac), (1, .int (nI p)), (2, .int (nI i))], [.ref ac], M21)) rfl rfl rfl ?_
              refine ps_get (S' := (80, [(3, .int (nI (ckN f n E mj (by2 f p)))), (0, .ref ac), (1, .int (nI p)), (2, .int (nI i))], [.ref vd], M21)) rfl h33 rfl rfl ?_
              refine ps_st (S' := (82, [(3, .int (nI (ckN f n E mj (by2 f p)))), (0, .ref ac), (1, .int (nI p)), (2, .int (nI i))], [.int 30, .ref vd], M21)) rfl rfl rfl ?_
              refine ps_st (S' := (83, [(3, .int (nI (ckN f n E mj (by2 f p)))), (0, .ref ac), (1, .int (nI p)), (2, .int (nI i))], [.int (nI p), .int 30, .ref vd], M21)) rfl rfl rfl ?_
              refine pl_call (a := [.ref vd, .int 30, .int (nI p)]) (rest := []) rfl rfl rfl (dk_wrong (vd := vd) (ru := ru) (wa := wa) (x1 := 30) (x2 := (nI p)) h34) (fun v95 M96 q97 => ?_)
              obtain ⟨rfl, h98, f99⟩ := q97
              have h101 := (f99.1 ac (nin1 (ob_ne h33 h34 (by decide)))).trans h33
              have h102 := (f99.1 b (nin1 (ob_ne h37 h34 (by decide)))).trans h37
              have h103 := (f99.1 da (nin1 (Ne.symm (ob_ar h34 h38)))).trans h38
              have h104 := (f99.1 c (nin1 (ob_ne h39 h34 (by decide)))).trans h39
              have hF105 := hF40.tr f99 (by simp)
              have hV106 := hV41.keep f99.gm (n7c h34 (by decide) (n7nil))
              show pl _ _ _ (86, [(3, .int (nI (ckN f n E mj (by2 f p)))), (0, .ref ac), (1, .int (nI p)), (2, .int (nI i))], [.int 0], M96) _
              exact ps_ret rfl rfl (Or.inr ⟨(30, p), by
                  rw [← hs9, clS_st (i := i) (by omega), q42_s]
                  dsimp only
                  rw [if_pos ⟨n_51, hfe⟩], rfl, h98, hF105⟩)
            · skip
              obtain ⟨x107, q65_s, q65_l, rfl, rfl⟩ := q91
              show pl _ _ _ (68, [(3, .int (nI (ckN f n E mj (by2 f p)))), (0, .ref ac), (1, .int (nI p)), (2, .int (nI i))], [.int (nI x107)], M21) _
              refine ps_st (S' := (69, [(3, .int (nI (ckN f n E mj (by2 f p)))), (0, .ref ac), (1, .int (nI p)), (2, .int (nI i))], [.ref ac, .int (nI x107)], M21)) rfl rfl rfl ?_
              refine ps_st (S' := (70, [(3, .int (nI (ckN f n E mj (by2 f p)))), (0, .ref ac), (1, .int (nI p)), (2, .int (nI i))], [.int (nI p), .ref ac, .int (nI x107)], M21)) rfl rfl rfl ?_
              refine pl_call (a := [.ref ac, .int (nI p)]) (rest := [.int (nI x107)]) rfl rfl rfl (dk_behind (f := f) (n := n) (q := q) (ac := ac) (c := c) (b := b) (da := da) (vd := vd) (s1 := (nI s'32)) (p := p) h33 h37 h38 (hn) (by omega)) (fun v108 M109 q110 => ?_)
              obtain ⟨rfl, rfl⟩ := q110
              show pl _ _ _ (73, [(3, .int (nI (ckN f n E mj (by2 f p)))), (0, .ref ac), (1, .int (nI p)), (2, .int (nI i))], [.int (nI (p + 6 + by4 f (p + 2))), .int (nI x107)], M21) _
              refine ps_if2 (S1 := (87, [(0, .ref ac), (1, .int (nI p)), (2, .int (nI i)), (3, .int (nI (ckN f n E mj (by2 f p))))], [], M21)) (S2 := (76, [(3, .int (nI (ckN f n E mj (by2 f p)))), (0, .ref ac), (1, .int (nI p)), (2, .int (nI i))], [], M21)) rfl rfl rfl (fun c_73 => ?_) (fun c_73 => ?_)
              · have c_73 : (nI x107) = (nI (p + 6 + by4 f (p + 2))) := of_decide_eq_true c_73
                have n_73 : x107 = p + 6 + by4 f (p + 2) := (eq_nI (p := x107) (n := p + 6 + by4 f (p + 2)) (by omega) (by omega)).mp c_73
                have hfe : s_fe f (ckN f n E mj (by2 f p)) (p + 6) (p + 6 + by4 f (p + 2)) = some (p + 6 + by4 f (p + 2)) := by rw [q65_s, n_73]
                have hb8 := (s_fe_in hfe).1
                refine ps_st (S' := (88, [(0, .ref ac), (1, .int (nI p)), (2, .int (nI i)), (3, .int (nI (ckN f n E mj (by2 f p))))], [.ref ac], M21)) rfl rfl rfl ?_
                refine ps_st (S' := (89, [(0, .ref ac), (1, .int (nI p)), (2, .int (nI i)), (3, .int (nI (ckN f n E mj (by2 f p))))], [.int (nI (ckN f n E mj (by2 f p))), .ref ac], M21)) rfl rfl rfl ?_
                refine ps_st (S' := (90, [(0, .ref ac), (1, .int (nI p)), (2, .int (nI i)), (3, .int (nI (ckN f n E mj (by2 f p))))], [.int (nI p), .int (nI (ckN f n E mj (by2 f p))), .ref ac], M21)) rfl rfl rfl ?_
                refine pl_call (a := [.ref ac, .int (nI (ckN f n E mj (by2 f p))), .int (nI p)]) (rest := []) rfl rfl rfl (dk_brokenRule2 (f := f) (n := n) (N := N) (q := q) (E := E) (ac := ac) (c := c) (b := b) (da := da) (vd := vd) (fr := fr) (mr := mr) (fa := fa) (ic := ic) (mj := mj) (na := na) (pa := pa) (mi := mi) (ru := ru) (wa := wa) (k1 := k1) (k7 := K.2.2.2.2.2) (k := (ckN f n E mj (by2 f p))) (p := p) (e := (p + 6 + by4 f (p + 2))) (s := (s'32)) (bc := bc) (bp := (K.2.1)) (i4 := (K.2.2.1)) (i5 := (K.2.2.2.1)) (i6 := (K.2.2.2.2.1)) h33 h37 h38 h39 h34 (hn) (hmj) (hfa) (by omega) (hk8) (by omega) (by omega) (fun _ => hfe) (hV41)) (fun v111 M112 q113 => ?_)
                rcases q113 with q113 | q113 | q113
                · skip
                  obtain ⟨q90_s, rfl, h114, h115, f116⟩ := q113
                  have h118 := (f116.1 ac (nin2 (ob_ne h33 h39 (by decide)) (ob_ne h33 h34 (by decide)))).trans h33
                  have h119 := (f116.1 b (nin2 (ob_ne h37 h39 (by decide)) (ob_ne h37 h34 (by decide)))).trans h37
                  have h120 := (f116.1 da (nin2 (Ne.symm (ob_ar h39 h38)) (Ne.symm (ob_ar h34 h38)))).trans h38
                  have hF121 := hF40.tr f116 (by simp)
                  have hV122 := hV41.keep f116.gm (n7c h39 (by decide) (n7c h34 (by decide) (n7nil)))
                  show pl _ _ _ (93, [(0, .ref ac), (1, .int (nI p)), (2, .int (nI i)), (3, .int (nI (ckN f n E mj (by2 f p))))], [.int 0], M112) _
                  refine ps_st (S' := (95, [(4, .int 0), (0, .ref ac), (1, .int (nI p)), (2, .int (nI i)), (3, .int (nI (ckN f n E mj (by2 f p))))], [], M112)) rfl rfl rfl ?_
                  refine ps_st (S' := (97, [(4, .int 0), (0, .ref ac), (1, .int (nI p)), (2, .int (nI i)), (3, .int (nI (ckN f n E mj (by2 f p))))], [.int 0], M112)) rfl rfl rfl ?_
                  refine ps_if (S1 := (120, [(4, .int 0), (0, .ref ac), (1, .int (nI p)), (2, .int (nI i)), (3, .int (nI (ckN f n E mj (by2 f p))))], [], M112)) (S2 := (100, [(4, .int 0), (0, .ref ac), (1, .int (nI p)), (2, .int (nI i)), (3, .int (nI (ckN f n E mj (by2 f p))))], [], M112)) rfl rfl rfl (fun c_97 => ?_) (fun c_97 => ?_)
                  rotate_left
                  · exact absurd (by decide) (of_decide_eq_false c_97)
                  refine ps_st (S' := (121, [(4, .int 0), (0, .ref ac), (1, .int (nI p)), (2, .int (nI i)), (3, .int (nI (ckN f n E mj (by2 f p))))], [.ref ac], M112)) rfl rfl rfl ?_
                  refine ps_st (S' := (122, [(4, .int 0), (0, .ref ac), (1, .int (nI p)), (2, .int (nI i)), (3, .int (nI (ckN f n E mj (by2 f p))))], [.int (nI p), .ref ac], M112)) rfl rfl rfl ?_
                  refine pl_call (a := [.ref ac, .int (nI p)]) (rest := []) rfl rfl rfl (dk_behind (f := f) (n := n) (q := q) (ac := ac) (c := c) (b := b) (da := da) (vd := vd) (s1 := (nI s'32)) (p := p) h118 h119 h120 (hn) (by omega)) (fun v123 M124 q125 => ?_)
                  obtain ⟨rfl, rfl⟩ := q125
                  show pl _ _ _ (125, [(4, .int 0), (0, .ref ac), (1, .int (nI p)), (2, .int (nI i)), (3, .int (nI (ckN f n E mj (by2 f p))))], [.int (nI (p + 6 + by4 f (p + 2)))], M112) _
                  refine ps_st (S' := (126, [(1, .int (nI (p + 6 + by4 f (p + 2)))), (4, .int 0), (0, .ref ac), (2, .int (nI i)), (3, .int (nI (ckN f n E mj (by2 f p))))], [], M112)) rfl rfl rfl ?_
                  refine ps_st (S' := (129, [(2, .int ((nI i) + 1)), (1, .int (nI (p + 6 + by4 f (p + 2)))), (4, .int 0), (0, .ref ac), (3, .int (nI (ckN f n E mj (by2 f p))))], [], M112)) rfl rfl rfl ?_
                  rw [nI_add1 (p := i) (k := 1) (x := 1) rfl (by omega)]
                  show pl _ _ _ (_, [(2, .int (nI (i + 1))), (1, .int (nI (p + 6 + by4 f (p + 2)))), (4, .int 0), (0, .ref ac), (3, .int (nI (ckN f n E mj (by2 f p))))], [], M112) _
                  refine ps_st (S' := (15, [(0, .ref ac), (1, .int (nI (p + 6 + by4 f (p + 2)))), (2, .int (nI (i + 1)))], [], M112)) rfl rfl rfl ?_
                  exact ih (i + 1) (p + 6 + by4 f (p + 2)) ((s'32)) (if (ckN f n E mj (by2 f p)) = 6 then by2 f (p + 6) else bc) (stU f (ckN f n E mj (by2 f p)) p K) M112 h118 h119 h120 h115 h114 hV122 hF121 (by omega) (q42_l) (by
                      have := by2_lt f (p + 6)
                      split <;> omega) (hq7) (by
                      rw [← hs9, clS_st (i := i) (by omega), q42_s]
                      dsimp only
                      rw [if_neg (c := ¬ (ckN f n E mj (by2 f p)) = 0 ∧ ¬ s_fe f (ckN f n E mj (by2 f p)) (p + 6) (p + 6 + by4 f (p + 2)) = some (p + 6 + by4 f (p + 2))) (fun h => h.2 hfe)]
                      rw [q90_s]) (by
                      rw [← hu, clU_st (i := i) (by omega)]) (by
                      rw [nw_pop q42_s (by omega), hpc]
                      rfl)
                · skip
                  obtain ⟨r9126, q90_s, q90_l, rfl, h127, f128⟩ := q113
                  have h130 := (f128.1 ac (nin2 (ob_ne h33 h39 (by decide)) (ob_ne h33 h34 (by decide)))).trans h33
                  have h131 := (f128.1 b (nin2 (ob_ne h37 h39 (by decide)) (ob_ne h37 h34 (by decide)))).trans h37
                  have h132 := (f128.1 da (nin2 (Ne.symm (ob_ar h39 h38)) (Ne.symm (ob_ar h34 h38)))).trans h38
                  have hF133 := hF40.tr f128 (by simp)
                  have hV134 := hV41.keep f128.gm (n7c h39 (by decide) (n7c h34 (by decide) (n7nil)))
                  show pl _ _ _ (93, [(0, .ref ac), (1, .int (nI p)), (2, .int (nI i)), (3, .int (nI (ckN f n E mj (by2 f p))))], [.int (nI r9126)], M112) _
                  refine ps_st (S' := (95, [(4, .int (nI r9126)), (0, .ref ac), (1, .int (nI p)), (2, .int (nI i)), (3, .int (nI (ckN f n E mj (by2 f p))))], [], M112)) rfl rfl rfl ?_
                  refine ps_st (S' := (97, [(4, .int (nI r9126)), (0, .ref ac), (1, .int (nI p)), (2, .int (nI i)), (3, .int (nI (ckN f n E mj (by2 f p))))], [.int (nI r9126)], M112)) rfl rfl rfl ?_
                  refine ps_if (S1 := (120, [(4, .int (nI r9126)), (0, .ref ac), (1, .int (nI p)), (2, .int (nI i)), (3, .int (nI (ckN f n E mj (by2 f p))))], [], M112)) (S2 := (100, [(4, .int (nI r9126)), (0, .ref ac), (1, .int (nI p)), (2, .int (nI i)), (3, .int (nI (ckN f n E mj (by2 f p))))], [], M112)) rfl rfl rfl (fun c_97 => ?_) (fun c_97 => ?_)
                  · exact absurd (of_decide_eq_true c_97) (fun h9 => absurd ((eq_nI (p := r9126) (n := 0) (by omega) (by decide)).mp h9) (by omega))
                  refine ps_st (S' := (102, [(4, .int (nI r9126)), (0, .ref ac), (1, .int (nI p)), (2, .int (nI i)), (3, .int (nI (ckN f n E mj (by2 f p))))], [.int (nI r9126)], M112)) rfl rfl rfl ?_
                  refine ps_if (S1 := (109, [(4, .int (nI r9126)), (0, .ref ac), (1, .int (nI p)), (2, .int (nI i)), (3, .int (nI (ckN f n E mj (by2 f p))))], [], M112)) (S2 := (105, [(4, .int (nI r9126)), (0, .ref ac), (1, .int (nI p)), (2, .int (nI i)), (3, .int (nI (ckN f n E mj (by2 f p))))], [], M112)) rfl rfl rfl (fun c_102 => ?_) (fun c_102 => ?_)
                  rotate_left
                  · exact absurd (Int32.not_lt.mp (nI_n0 (by omega))) (of_decide_eq_false c_102)
                  refine ps_st (S' := (110, [(4, .int (nI r9126)), (0, .ref ac), (1, .int (nI p)), (2, .int (nI i)), (3, .int (nI (ckN f n E mj (by2 f p))))], [.ref ac], M112)) rfl rfl rfl ?_
                  refine ps_get (S' := (113, [(4, .int (nI r9126)), (0, .ref ac), (1, .int (nI p)), (2, .int (nI i)), (3, .int (nI (ckN f n E mj (by2 f p))))], [.ref vd], M112)) rfl h130 rfl rfl ?_
                  refine ps_st (S' := (115, [(4, .int (nI r9126)), (0, .ref ac), (1, .int (nI p)), (2, .int (nI i)), (3, .int (nI (ckN f n E mj (by2 f p))))], [.int (nI r9126), .ref vd], M112)) rfl rfl rfl ?_
                  refine ps_st (S' := (116, [(4, .int (nI r9126)), (0, .ref ac), (1, .int (nI p)), (2, .int (nI i)), (3, .int (nI (ckN f n E mj (by2 f p))))], [.int (nI p), .int (nI r9126), .ref vd], M112)) rfl rfl rfl ?_
                  refine pl_call (a := [.ref vd, .int (nI r9126), .int (nI p)]) (rest := []) rfl rfl rfl (dk_wrong (vd := vd) (ru := ru) (wa := wa) (x1 := (nI r9126)) (x2 := (nI p)) h127) (fun v135 M136 q137 => ?_)
                  obtain ⟨rfl, h138, f139⟩ := q137
                  have h141 := (f139.1 ac (nin1 (ob_ne h130 h127 (by decide)))).trans h130
                  have h142 := (f139.1 b (nin1 (ob_ne h131 h127 (by decide)))).trans h131
                  have h143 := (f139.1 da (nin1 (Ne.symm (ob_ar h127 h132)))).trans h132
                  have hF144 := hF133.tr f139 (by simp)
                  have hV145 := hV134.keep f139.gm (n7c h127 (by decide) (n7nil))
                  show pl _ _ _ (119, [], [.int 0], M136) _
                  exact ps_ret rfl rfl (Or.inr ⟨(r9126, p), by
                      rw [← hs9, clS_st (i := i) (by omega), q42_s]
                      dsimp only
                      rw [if_neg (c := ¬ (ckN f n E mj (by2 f p)) = 0 ∧ ¬ s_fe f (ckN f n E mj (by2 f p)) (p + 6) (p + 6 + by4 f (p + 2)) = some (p + 6 + by4 f (p + 2))) (fun h => h.2 hfe)]
                      rw [q90_s], rfl, h138, hF144⟩)
                · skip
                  obtain ⟨e9146, q90_s, rfl, h147, f148⟩ := q113
                  have h150 := (f148.1 ac (nin2 (ob_ne h33 h39 (by decide)) (ob_ne h33 h34 (by decide)))).trans h33
                  have h151 := (f148.1 b (nin2 (ob_ne h37 h39 (by decide)) (ob_ne h37 h34 (by decide)))).trans h37
                  have h152 := (f148.1 da (nin2 (Ne.symm (ob_ar h39 h38)) (Ne.symm (ob_ar h34 h38)))).trans h38
                  have hF153 := hF40.tr f148 (by simp)
                  have hV154 := hV41.keep f148.gm (n7c h39 (by decide) (n7c h34 (by decide) (n7nil)))
                  show pl _ _ _ (93, [(0, .ref ac), (1, .int (nI p)), (2, .int (nI i)), (3, .int (nI (ckN f n E mj (by2 f p))))], [.int (-1)], M112) _
                  refine ps_st (S' := (95, [(4, .int (-1)), (0, .ref ac), (1, .int (nI p)), (2, .int (nI i)), (3, .int (nI (ckN f n E mj (by2 f p))))], [], M112)) rfl rfl rfl ?_
                  refine ps_st (S' := (97, [(4, .int (-1)), (0, .ref ac), (1, .int (nI p)), (2, .int (nI i)), (3, .int (nI (ckN f n E mj (by2 f p))))], [.int (-1)], M112)) rfl rfl rfl ?_
                  refine ps_if (S1 := (120, [(4, .int (-1)), (0, .ref ac), (1, .int (nI p)), (2, .int (nI i)), (3, .int (nI (ckN f n E mj (by2 f p))))], [], M112)) (S2 := (100, [(4, .int (-1)), (0, .ref ac), (1, .int (nI p)), (2, .int (nI i)), (3, .int (nI (ckN f n E mj (by2 f p))))], [], M112)) rfl rfl rfl (fun c_97 => ?_) (fun c_97 => ?_)
                  · exact absurd (of_decide_eq_true c_97) (by decide)
                  refine ps_st (S' := (102, [(4, .int (-1)), (0, .ref ac), (1, .int (nI p)), (2, .int (nI i)), (3, .int (nI (ckN f n E mj (by2 f p))))], [.int (-1)], M112)) rfl rfl rfl ?_
                  refine ps_if (S1 := (109, [(4, .int (-1)), (0, .ref ac), (1, .int (nI p)), (2, .int (nI i)), (3, .int (nI (ckN f n E mj (by2 f p))))], [], M112)) (S2 := (105, [(4, .int (-1)), (0, .ref ac), (1, .int (nI p)), (2, .int (nI i)), (3, .int (nI (ckN f n E mj (by2 f p))))], [], M112)) rfl rfl rfl (fun c_102 => ?_) (fun c_102 => ?_)
                  · exact absurd (of_decide_eq_true c_102) (by decide)
                  refine ps_st (S' := (106, [(4, .int (-1)), (0, .ref ac), (1, .int (nI p)), (2, .int (nI i)), (3, .int (nI (ckN f n E mj (by2 f p))))], [.int 0], M112)) rfl rfl rfl ?_
                  refine ps_st (S' := (119, [], [.int 0], M112)) rfl rfl rfl ?_
                  exact ps_ret rfl rfl (Or.inr ⟨e9146, by
                      rw [← hs9, clS_st (i := i) (by omega), q42_s]
                      dsimp only
                      rw [if_neg (c := ¬ (ckN f n E mj (by2 f p)) = 0 ∧ ¬ s_fe f (ckN f n E mj (by2 f p)) (p + 6) (p + 6 + by4 f (p + 2)) = some (p + 6 + by4 f (p + 2))) (fun h => h.2 hfe)]
                      rw [q90_s], rfl, h147, hF153⟩)
              · have c_73 : ¬ ((nI x107) = (nI (p + 6 + by4 f (p + 2)))) := of_decide_eq_false c_73
                have n_73 : ¬ (x107 = p + 6 + by4 f (p + 2)) := fun h9 => c_73 ((eq_nI (p := x107) (n := p + 6 + by4 f (p + 2)) (by omega) (by omega)).mpr h9)
                have hfe : ¬ s_fe f (ckN f n E mj (by2 f p)) (p + 6) (p + 6 + by4 f (p + 2)) = some (p + 6 + by4 f (p + 2)) := by rw [q65_s]; exact fun h => n_73 (Option.some.inj h)
                refine ps_st (S' := (77, [(3, .int (nI (ckN f n E mj (by2 f p)))), (0, .ref ac), (1, .int (nI p)), (2, .int (nI i))], [.ref ac], M21)) rfl rfl rfl ?_
                refine ps_get (S' := (80, [(3, .int (nI (ckN f n E mj (by2 f p)))), (0, .ref ac), (1, .int (nI p)), (2, .int (nI i))], [.ref vd], M21)) rfl h33 rfl rfl ?_
                refine ps_st (S' := (82, [(3, .int (nI (ckN f n E mj (by2 f p)))), (0, .ref ac), (1, .int (nI p)), (2, .int (nI i))], [.int 30, .ref vd], M21)) rfl rfl rfl ?_
                refine ps_st (S' := (83, [(3, .int (nI (ckN f n E mj (by2 f p)))), (0, .ref ac), (1, .int (nI p)), (2, .int (nI i))], [.int (nI p), .int 30, .ref vd], M21)) rfl rfl rfl ?_
                refine pl_call (a := [.ref vd, .int 30, .int (nI p)]) (rest := []) rfl rfl rfl (dk_wrong (vd := vd) (ru := ru) (wa := wa) (x1 := 30) (x2 := (nI p)) h34) (fun v155 M156 q157 => ?_)
                obtain ⟨rfl, h158, f159⟩ := q157
                have h161 := (f159.1 ac (nin1 (ob_ne h33 h34 (by decide)))).trans h33
                have h162 := (f159.1 b (nin1 (ob_ne h37 h34 (by decide)))).trans h37
                have h163 := (f159.1 da (nin1 (Ne.symm (ob_ar h34 h38)))).trans h38
                have h164 := (f159.1 c (nin1 (ob_ne h39 h34 (by decide)))).trans h39
                have hF165 := hF40.tr f159 (by simp)
                have hV166 := hV41.keep f159.gm (n7c h34 (by decide) (n7nil))
                show pl _ _ _ (86, [(3, .int (nI (ckN f n E mj (by2 f p)))), (0, .ref ac), (1, .int (nI p)), (2, .int (nI i))], [.int 0], M156) _
                exact ps_ret rfl rfl (Or.inr ⟨(30, p), by
                    rw [← hs9, clS_st (i := i) (by omega), q42_s]
                    dsimp only
                    rw [if_pos ⟨n_51, hfe⟩], rfl, h158, hF165⟩)
  refine ps_st (S' := (1, [(0, .ref ac)], [.ref ac], M)) rfl rfl rfl ?_
  refine ps_st (S' := (2, [(0, .ref ac)], [.int 0, .ref ac], M)) rfl rfl rfl ?_
  refine ps_put (l' := [.ref c, .ref b, .ref q, .ref vd, .int 0]) rfl h_ac rfl rfl (fun M167 h168 f169 z170 => ?_)
  have h171 := (f169 b (ob_ne h_b h_ac (by decide))).trans h_b
  have h172 := (f169 da (Ne.symm (ob_ar h_ac h_da))).trans h_da
  have h173 := (f169 c (ob_ne h_c h_ac (by decide))).trans h_c
  have h174 := (f169 vd (ob_ne h_vd h_ac (by decide))).trans h_vd
  have hV175 := hV.put h_ac (by decide) f169 z170
  have hF176 := hF.up (by simp) f169 z170
  show pl _ _ _ (5, [(0, .ref ac)], [], M167) _
  refine ps_st (S' := (6, [(0, .ref ac)], [.ref ac], M167)) rfl rfl rfl ?_
  refine ps_get (S' := (9, [(0, .ref ac)], [.ref c], M167)) rfl h168 rfl rfl ?_
  refine ps_get (S' := (12, [(0, .ref ac)], [.int (nI pa)], M167)) rfl h173 rfl rfl ?_
  refine ps_st (S' := (13, [(1, .int (nI pa)), (0, .ref ac)], [], M167)) rfl rfl rfl ?_
  refine ps_st (S' := (14, [(1, .int (nI pa)), (0, .ref ac)], [.int 0], M167)) rfl rfl rfl ?_
  refine ps_st (S' := (15, [(0, .ref ac), (1, .int (nI pa)), (2, .int 0)], [], M167)) rfl rfl rfl ?_
  exact (LL kf) (0) (pa) (0) (bc0) (K0) M167 h168 h171 h172 h173 h174 hV175 hF176 (by omega) (by decide) (hbc) (hat) (rfl) (rfl) (by rw [hK0]; rfl)
end
section
/-! all fields, all methods (laid by wip/p4/d15.py) -/

section MSA
variable {M M' : mi_H}
/-- a frame in which a member of another row may change -/
theorem MV.keepB {f : Nat → Int32} {B : List Nat} {mm k a : Nat} {G : Nat → Nat} {S : List Nat} {l0 : List Value} (h : MV f B mm G k M) (hf : gm S M M') (hs : n6 a S M) (hc : M.1 a = some (ob 6 l0)) (ha : ∀ j, j < B.length → ¬ G j = a) : MV f B mm G k M' := by
  refine h.move hf.2 (fun C n R e => hf.1 mm h.1 (fun hz => ?_)) (fun i hi x1 x2 x3 x4 v e => ⟨x1, x2, x3, x4, v, (hf.1 _ (h.2.2.2 i hi).1 (fun hz => ?_)).trans e, fun _ => ⟨rfl, rfl, rfl, rfl, rfl⟩⟩)
  · rcases hs mm hz with h1 | ⟨ci, l, e1, -⟩
    · rw [← h1, e] at hc
      cases hc
    · rw [e] at e1
      cases e1
  · rcases hs _ hz with h2 | ⟨ci, l, e1, hc1⟩
    · exact ha i hi h2
    · rw [e] at e1
      simp only [mcell, ob, Option.some.injEq, Sum.inr.injEq, Prod.mk.injEq] at e1
      exact hc1 e1.1.symm
end MSA
section MSB
variable (f : Nat → Int32) (n : Nat) (E : List (Nat × Nat))
def flS (c : Nat) (B : List Nat) : Nat → Nat → Option (Nat × Nat)
  | 0, _ => none
  | r + 1, i => match fhS f n E c B i (B.getD i 0) with
    | some e => some e
    | none => match faS f n E (by2 f (B.getD i 0)) (tX f n E (by2 f (B.getD i 0 + 4))) (by2 f (B.getD i 0 + 6)) (B.getD i 0 + 8) 0 with
      | some e => some e
      | none => flS c B r (i + 1)
def mtS (c mj : Nat) (B : List Nat) : Nat → Nat → Option (Nat × Nat)
  | 0, _ => none
  | r + 1, i => match mhS f n E c mj B i (B.getD i 0) with
    | some e => some e
    | none => match maS f n E mj (apN f n E (B.getD i 0)) (by2 f (B.getD i 0 + 6)) (B.getD i 0 + 8) 0 0 with
      | .inl e => some e
      | .inr h => match cduS f n E (B.getD i 0) h with
        | some e => some e
        | none => mtS c mj B r (i + 1)
end MSB
theorem flS_st {f : Nat → Int32} {n : Nat} {E : List (Nat × Nat)} {c t i : Nat} {B : List Nat} (h : i < t) : flS f n E c B (t - i) i = match fhS f n E c B i (B.getD i 0) with
    | some e => some e
    | none => match faS f n E (by2 f (B.getD i 0)) (tX f n E (by2 f (B.getD i 0 + 4))) (by2 f (B.getD i 0 + 6)) (B.getD i 0 + 8) 0 with
      | some e => some e
      | none => flS f n E c B (t - (i + 1)) (i + 1) := by
  rw [show t - i = (t - (i + 1)) + 1 by omega]
  rfl
theorem mtS_st {f : Nat → Int32} {n : Nat} {E : List (Nat × Nat)} {c mj t i : Nat} {B : List Nat} (h : i < t) : mtS f n E c mj B (t - i) i = match mhS f n E c mj B i (B.getD i 0) with
    | some e => some e
    | none => match maS f n E mj (apN f n E (B.getD i 0)) (by2 f (B.getD i 0 + 6)) (B.getD i 0 + 8) 0 0 with
      | .inl e => some e
      | .inr h => match cduS f n E (B.getD i 0) h with
        | some e => some e
        | none => mtS f n E c mj B (t - (i + 1)) (i + 1) := by
  rw [show t - i = (t - (i + 1)) + 1 by omega]
  rfl
theorem dk_codeIsDue {g : xe_G} {M : mi_H} {f : Nat → Int32} {n N q : Nat} {E : List (Nat × Nat)} {o c b da vd ac fr mr fa ic mj na pa : Nat} {mi ru wa k1 k2 k3 k4 k5 k6 k7 : Int32} {a b0 : Nat} {kn co ap ex : Int32} {cd : Value} {h : Nat} (h_o : M.1 o = some (ob 2 [.ref c, .ref b, .ref q, .ref vd, .ref ac])) (h_c : M.1 c = some (ob 3 [.ref b, .ref q, .int mi, .int (nI mj), .int (nI fa), .int (nI ic), .ref fr, .ref mr, .int (nI na), .int (nI pa), .int k1, .int k2, .int k3, .int k4, .int k5, .int k6, .int k7])) (h_b : M.1 b = some (ob 1 [.ref da])) (h_da : M.1 da = some (ar .byte n f)) (h_vd : M.1 vd = some (ob 10 [.int ru, .int wa])) (h_a : M.1 a = some (ob 6 [.int (nI b0), .int (nI (by2 f b0)), .int (nI (by2 f (b0 + 2))), .int (nI (by2 f (b0 + 4))), .int (nI (by2 f (b0 + 6))), .int (nI (b0 + 8)), .int kn, .int co, .int ap, .int ex, cd])) (hn : n ≤ 65540) (hmj : mj < 65536) (hfa : fa + 8 ≤ n) (hh : (h = 0 ∧ cd = .null) ∨ (h = 1 ∧ ∃ z9, cd = .ref z9)) (hV : PV g f n N E q M) : pt (mT g) 54 [.ref o, .ref a] M (fun v M' => ((cduS f n E b0 h = none) ∧ v = some (.int 1) ∧ M'.1 vd = some (ob 10 [.int ru, .int wa]) ∧ fm [vd] M M') ∨ (∃ (e : Nat × Nat), (cduS f n E b0 h = some e) ∧ v = some (.int 0) ∧ M'.1 vd = some (ob 10 [.int (nI e.1), .int (nI e.2)]) ∧ fm [vd] M M')) := by
  rcases hh with ⟨rfl, rfl⟩ | ⟨rfl, z9, rfl⟩
  · exact dk_codeIsDue_n h_o h_c h_b h_da h_vd h_a hn hmj hfa hV
  · exact dk_codeIsDue_y h_o h_c h_b h_da h_vd h_a hn hmj hfa hV
set_option maxHeartbeats 1000000 in
theorem dk_fieldsHold {g : xe_G} {M : mi_H} {f : Nat → Int32} {n N q : Nat} {E : List (Nat × Nat)} {o c b da vd ac mr fa ic mj na pa : Nat} {mi ru wa k1 k2 k3 k4 k5 k6 k7 : Int32} {ox : Nat} {og ga gf : Nat} {gn gw : Int32} {gk : Value} {s1 : Int32} {B : List Nat} {G : Nat → Nat} {mm : Nat} {B2 : List Nat} {G2 : Nat → Nat} {m2 : Nat} (h_ox : M.1 ox = some (ob 8 [.ref q, .int (nI mj), .ref vd])) (h_og : M.1 og = some (ob 11 [.ref ga, .int gn, .ref gf, gk, .int gw])) (h_o : M.1 o = some (ob 2 [.ref c, .ref b, .ref q, .ref vd, .ref ac])) (h_c : M.1 c = some (ob 3 [.ref b, .ref q, .int mi, .int (nI mj), .int (nI fa), .int (nI ic), .ref mm, .ref mr, .int (nI na), .int (nI pa), .int k1, .int k2, .int k3, .int k4, .int k5, .int k6, .int k7])) (h_b : M.1 b = some (ob 1 [.ref da])) (h_da : M.1 da = some (ar .byte n f)) (h_vd : M.1 vd = some (ob 10 [.int ru, .int wa])) (h_ac : M.1 ac = some (ob 0 [.ref c, .ref b, .ref q, .ref vd, .int s1])) (hn : n ≤ 65540) (hmj : mj < 65536) (hfa : fa + 8 ≤ n) (hB9 : B.length < 65536) (hB : ∀ i, i < B.length → B.getD i 0 + 8 ≤ n ∧ ∃ e0, s_atts f n (by2 f (B.getD i 0 + 6)) (B.getD i 0 + 8) = .inr e0) (hD : ∀ i j, i < B.length → j < B2.length → ¬ G i = G2 j) (l_o : o < M.2.1) (l_c : c < M.2.1) (l_b : b < M.2.1) (l_da : da < M.2.1) (l_vd : vd < M.2.1) (l_ac : ac < M.2.1) (l_q : q < M.2.1) (l_ox : ox < M.2.1) (l_og : og < M.2.1) (hV : PV g f n N E q M) (hM : MV f B mm G 0 M) (hM2 : MV f B2 m2 G2 0 M) : pt (mT g) 57 [.ref o] M (fun v M' => (∃ (s2 : Int32), (flS f n E (by2 f fa) B B.length 0 = none) ∧ (PV g f n N E q M') ∧ (MV f B2 m2 G2 0 M') ∧ v = some (.int 1) ∧ M'.1 ox = some (ob 8 [.ref q, .int (nI mj), .ref vd]) ∧ M'.1 og = some (ob 11 [.ref ga, .int gn, .ref gf, gk, .int gw]) ∧ M'.1 o = some (ob 2 [.ref c, .ref b, .ref q, .ref vd, .ref ac]) ∧ M'.1 c = some (ob 3 [.ref b, .ref q, .int mi, .int (nI mj), .int (nI fa), .int (nI ic), .ref mm, .ref mr, .int (nI na), .int (nI pa), .int k1, .int k2, .int k3, .int k4, .int k5, .int k6, .int k7]) ∧ M'.1 b = some (ob 1 [.ref da]) ∧ M'.1 da = some (ar .byte n f) ∧ M'.1 vd = some (ob 10 [.int ru, .int wa]) ∧ M'.1 ac = some (ob 0 [.ref c, .ref b, .ref q, .ref vd, .int s2]) ∧ M.2.1 ≤ M'.2.1) ∨ (∃ (e9 : Nat × Nat), (flS f n E (by2 f fa) B B.length 0 = some e9) ∧ v = some (.int 0) ∧ M'.1 vd = some (ob 10 [.int (nI e9.1), .int (nI e9.2)]) ∧ M'.1 og = some (ob 11 [.ref ga, .int gn, .ref gf, gk, .int gw]) ∧ M.2.1 ≤ M'.2.1)) := by
  refine pt_in (b := mb_57 g) rfl (fun kf => ?_)
  show pl (mT g) kf (mb_57 g).2 (0, [(0, .ref o)], [], M) _
  obtain ⟨z0, tp0⟩ : ∃ z0, M.2.1 = z0 := ⟨_, rfl⟩
  have LL : ∀ (kf : Nat), (∀ (i t1 : Nat) (s2 : Int32) (M1 : mi_H), (M1.1 ox = some (ob 8 [.ref q, .int (nI mj), .ref vd])) → (M1.1 og = some (ob 11 [.ref ga, .int gn, .ref gf, gk, .int gw])) → (M1.1 o = some (ob 2 [.ref c, .ref b, .ref q, .ref vd, .ref ac])) → (M1.1 c = some (ob 3 [.ref b, .ref q, .int mi, .int (nI mj), .int (nI fa), .int (nI ic), .ref mm, .ref mr, .int (nI na), .int (nI pa), .int k1, .int k2, .int k3, .int k4, .int k5, .int k6, .int k7])) → (M1.1 b = some (ob 1 [.ref da])) → (M1.1 da = some (ar .byte n f)) → (M1.1 vd = some (ob 10 [.int ru, .int wa])) → (M1.1 ac = some (ob 0 [.ref c, .ref b, .ref q, .ref vd, .int s2])) → (PV g f n N E q M1) → (MV f B mm G i M1) → (MV f B2 m2 G2 0 M1) → (M1.2.1 = t1) → (z0 ≤ t1) → (i ≤ B.length) → (flS f n E (by2 f fa) B (B.length - i) i = flS f n E (by2 f fa) B B.length 0) →  pl (mT g) kf (mb_57 g).2 (2, [(0, .ref o), (1, .int (nI i))], [], M1) (fun v M' => (∃ (s2 : Int32), (flS f n E (by2 f fa) B B.length 0 = none) ∧ (PV g f n N E q M') ∧ (MV f B2 m2 G2 0 M') ∧ v = some (.int 1) ∧ M'.1 ox = some (ob 8 [.ref q, .int (nI mj), .ref vd]) ∧ M'.1 og = some (ob 11 [.ref ga, .int gn, .ref gf, gk, .int gw]) ∧ M'.1 o = some (ob 2 [.ref c, .ref b, .ref q, .ref vd, .ref ac]) ∧ M'.1 c = some (ob 3 [.ref b, .ref q, .int mi, .int (nI mj), .int (nI fa), .int (nI ic), .ref mm, .ref mr, .int (nI na), .int (nI pa), .int k1, .int k2, .int k3, .int k4, .int k5, .int k6, .int k7]) ∧ M'.1 b = some (ob 1 [.ref da]) ∧ M'.1 da = some (ar .byte n f) ∧ M'.1 vd = some (ob 10 [.int ru, .int wa]) ∧ M'.1 ac = some (ob 0 [.ref c, .ref b, .ref q, .ref vd, .int s2]) ∧ M.2.1 ≤ M'.2.1) ∨ (∃ (e9 : Nat × Nat), (flS f n E (by2 f fa) B B.length 0 = some e9) ∧ v = some (.int 0) ∧ M'.1 vd = some (ob 10 [.int (nI e9.1), .int (nI e9.2)]) ∧ M'.1 og = some (ob 11 [.ref ga, .int gn, .ref gf, gk, .int gw]) ∧ M.2.1 ≤ M'.2.1))) := by
    intro kf
    induction kf with
    | zero => exact (by intros; exact pl_0)
    | succ kf ih =>
      intro i t1 s2 M1 hl_ox hl_og hl_o hl_c hl_b hl_da hl_vd hl_ac hV1 hM1 hM21 tp1 ht hi hs
      refine ps_st1 (S' := (3, [(0, .ref o), (1, .int (nI i))], [.int (nI i)], M1)) rfl rfl rfl ?_
      obtain ⟨R, h_mm, hR⟩ := hM1.2.1
      have l_mm := hM1.1
      refine ps_st (S' := (4, [(0, .ref o), (1, .int (nI i))], [.ref o, .int (nI i)], M1)) rfl rfl rfl ?_
      refine ps_get (S' := (7, [(0, .ref o), (1, .int (nI i))], [.ref c, .int (nI i)], M1)) rfl hl_o rfl rfl ?_
      refine ps_get (S' := (10, [(0, .ref o), (1, .int (nI i))], [.ref mm, .int (nI i)], M1)) rfl hl_c rfl rfl ?_
      refine ps_aalen (S' := (11, [(0, .ref o), (1, .int (nI i))], [.int (nI B.length), .int (nI i)], M1)) rfl h_mm rfl ?_
      refine ps_if2 (S1 := (59, [(0, .ref o), (1, .int (nI i))], [], M1)) (S2 := (14, [(0, .ref o), (1, .int (nI i))], [], M1)) rfl rfl rfl (fun c_11 => ?_) (fun c_11 => ?_)
      · have c_11 : (nI B.length) ≤ (nI i) := of_decide_eq_true c_11
        have n_11 : B.length ≤ i := (le_nI (p := B.length) (n := i) (by omega) (by omega)).mp c_11
        refine ps_st (S' := (60, [(0, .ref o), (1, .int (nI i))], [.int 1], M1)) rfl rfl rfl ?_
        exact ps_ret rfl rfl (Or.inl ⟨s2, by rw [← hs, show B.length - i = 0 by omega]; rfl, hV1, hM21, rfl, hl_ox, hl_og, hl_o, hl_c, hl_b, hl_da, hl_vd, hl_ac, by omega⟩)
      · have c_11 : ¬ ((nI B.length) ≤ (nI i)) := of_decide_eq_false c_11
        have n_11 : ¬ (B.length ≤ i) := fun h9 => c_11 ((le_nI (p := B.length) (n := i) (by omega) (by omega)).mpr h9)
        refine ps_st (S' := (15, [(0, .ref o), (1, .int (nI i))], [.ref o], M1)) rfl rfl rfl ?_
        refine ps_get (S' := (18, [(0, .ref o), (1, .int (nI i))], [.ref c], M1)) rfl hl_o rfl rfl ?_
        refine ps_get (S' := (21, [(0, .ref o), (1, .int (nI i))], [.ref mm], M1)) rfl hl_c rfl rfl ?_
        refine ps_st (S' := (22, [(0, .ref o), (1, .int (nI i))], [.int (nI i), .ref mm], M1)) rfl rfl rfl ?_
        obtain ⟨hl8, y1, y2, y3, y4, yv, hc8, hv8⟩ := hM1.2.2.2 i (by omega)
        obtain ⟨a, ha⟩ : ∃ a, G i = a := ⟨_, rfl⟩
        rw [ha] at hc8 hl8
        have hA : G i = a ∧ i < B.length ∧ i < i + 1 := ⟨ha, by omega, by omega⟩
        have hM9 := hM1.le (Nat.le_succ i)
        have hb0 : B.getD i 0 = B.getD i 0 := rfl
        have hDa : ∀ j, j < B2.length → ¬ G2 j = a := fun j hj e9 => hD i j (by omega) hj (ha.trans e9.symm)
        obtain ⟨hb1, e0, hat⟩ := hB i (by omega)
        refine ps_aald (S' := (23, [(0, .ref o), (1, .int (nI i))], [.ref a], M1)) rfl h_mm (⟨by omega, by rw [hR i (by omega), ha]⟩) rfl ?_
        refine ps_st (S' := (24, [(2, .ref a), (0, .ref o), (1, .int (nI i))], [], M1)) rfl rfl rfl ?_
        refine ps_st (S' := (25, [(2, .ref a), (0, .ref o), (1, .int (nI i))], [.ref a], M1)) rfl rfl rfl ?_
        refine ps_st (S' := (31, [(2, .ref a), (0, .ref o), (1, .int (nI i))], [], M1)) rfl rfl rfl ?_
        refine ps_st (S' := (32, [(2, .ref a), (0, .ref o), (1, .int (nI i))], [.ref o], M1)) rfl rfl rfl ?_
        refine ps_st (S' := (33, [(2, .ref a), (0, .ref o), (1, .int (nI i))], [.ref a, .ref o], M1)) rfl rfl rfl ?_
        refine ps_st (S' := (34, [(2, .ref a), (0, .ref o), (1, .int (nI i))], [.int (nI i), .ref a, .ref o], M1)) rfl rfl rfl ?_
        refine pl_call (a := [.ref o, .ref a, .int (nI i)]) (rest := []) rfl rfl rfl (dk_fieldHolds (f := f) (n := n) (N := N) (q := q) (E := E) (o := o) (c := c) (b := b) (da := da) (vd := vd) (ac := ac) (mr := mr) (fa := fa) (ic := ic) (mj := mj) (na := na) (pa := pa) (mi := mi) (ru := ru) (wa := wa) (k1 := k1) (k2 := k2) (k3 := k3) (k4 := k4) (k5 := k5) (k6 := k6) (k7 := k7) (a := a) (b0 := (B.getD i 0)) (kn := y1) (co := y2) (ap := y3) (ex := y4) (cd := yv) (B := B) (G := G) (mm := mm) (kk := (i + 1)) (i0 := i) hl_o hl_c hl_b hl_da hl_vd hc8 (hn) (hmj) (hfa) (hA) (rfl) (hB9) (hb1) (hV1) (hM9)) (fun v1 M2 q3 => ?_)
        rcases q3 with q3 | q3
        · skip
          obtain ⟨q34_s, rfl, h4, f5⟩ := q3
          have h7 := (f5.1 ox (nin1 (ob_ne hl_ox hl_vd (by decide)))).trans hl_ox
          have h8 := (f5.1 og (nin1 (ob_ne hl_og hl_vd (by decide)))).trans hl_og
          have h9 := (f5.1 o (nin1 (ob_ne hl_o hl_vd (by decide)))).trans hl_o
          have h10 := (f5.1 c (nin1 (ob_ne hl_c hl_vd (by decide)))).trans hl_c
          have h11 := (f5.1 b (nin1 (ob_ne hl_b hl_vd (by decide)))).trans hl_b
          have h12 := (f5.1 da (nin1 (Ne.symm (ob_ar hl_vd hl_da)))).trans hl_da
          have h13 := (f5.1 ac (nin1 (ob_ne hl_ac hl_vd (by decide)))).trans hl_ac
          have h14 := (f5.1 mm (nin1 (Ne.symm (ob_ro hl_vd h_mm)))).trans h_mm
          have h15 := (f5.1 a (nin1 (ob_ne hc8 hl_vd (by decide)))).trans hc8
          have tp17 : M2.2.1 = t1 := by rw [f5.2]; exact tp1
          have hV18 := hV1.keep f5.gm (n7c hl_vd (by decide) (n7nil))
          have hV19 := hM9.keep f5.gm (n6o hl_vd (by decide) (n6on))
          have hV20 := hM21.keep f5.gm (n6o hl_vd (by decide) (n6on))
          show pl _ _ _ (37, [(2, .ref a), (0, .ref o), (1, .int (nI i))], [.int 1], M2) _
          refine ps_if (S1 := (51, [], [], M2)) (S2 := (40, [(2, .ref a), (0, .ref o), (1, .int (nI i))], [], M2)) rfl rfl rfl (fun c_37 => ?_) (fun c_37 => ?_)
          · exact absurd (of_decide_eq_true c_37) (by decide)
          refine ps_st (S' := (41, [(2, .ref a), (0, .ref o), (1, .int (nI i))], [.ref o], M2)) rfl rfl rfl ?_
          refine ps_get (S' := (44, [(2, .ref a), (0, .ref o), (1, .int (nI i))], [.ref ac], M2)) rfl h9 rfl rfl ?_
          refine ps_st (S' := (45, [(2, .ref a), (0, .ref o), (1, .int (nI i))], [.ref a, .ref ac], M2)) rfl rfl rfl ?_
          refine pl_call (a := [.ref ac, .ref a]) (rest := []) rfl rfl rfl (dk_ofField (f := f) (n := n) (N := N) (q := q) (E := E) (ac := ac) (c := c) (b := b) (da := da) (vd := vd) (fr := mm) (mr := mr) (fa := fa) (ic := ic) (mj := mj) (na := na) (pa := pa) (mi := mi) (ru := ru) (wa := wa) (s1 := s2) (k1 := k1) (k2 := k2) (k3 := k3) (k4 := k4) (k5 := k5) (k6 := k6) (k7 := k7) (a := a) (b0 := (B.getD i 0)) (e0 := e0) (kn := y1) (co := y2) (ap := y3) (ex := y4) (cd := yv) h13 h11 h12 h10 h4 h15 (hn) (hmj) (hb1) (hat) (hV18)) (fun v21 M22 q23 => ?_)
          rcases q23 with q23 | q23
          · skip
            obtain ⟨s224, kn225, co226, q45_s, rfl, h27, h28, h29, f30⟩ := q23
            have h32 := (f30.1 ox (nin3 (ob_ne h7 h13 (by decide)) (ob_ne h7 h4 (by decide)) (ob_ne h7 h15 (by decide)))).trans h7
            have h33 := (f30.1 og (nin3 (ob_ne h8 h13 (by decide)) (ob_ne h8 h4 (by decide)) (ob_ne h8 h15 (by decide)))).trans h8
            have h34 := (f30.1 o (nin3 (ob_ne h9 h13 (by decide)) (ob_ne h9 h4 (by decide)) (ob_ne h9 h15 (by decide)))).trans h9
            have h35 := (f30.1 c (nin3 (ob_ne h10 h13 (by decide)) (ob_ne h10 h4 (by decide)) (ob_ne h10 h15 (by decide)))).trans h10
            have h36 := (f30.1 b (nin3 (ob_ne h11 h13 (by decide)) (ob_ne h11 h4 (by decide)) (ob_ne h11 h15 (by decide)))).trans h11
            have h37 := (f30.1 da (nin3 (Ne.symm (ob_ar h13 h12)) (Ne.symm (ob_ar h4 h12)) (Ne.symm (ob_ar h15 h12)))).trans h12
            have h38 := (f30.1 mm (nin3 (Ne.symm (ob_ro h13 h14)) (Ne.symm (ob_ro h4 h14)) (Ne.symm (ob_ro h15 h14)))).trans h14
            have tp40 : M22.2.1 = t1 := by rw [f30.2]; exact tp17
            have hV41 := hV18.keep f30.gm (n7c h13 (by decide) (n7c h4 (by decide) (n7c h15 (by decide) (n7nil))))
            have hV42 := hV19.keepA f30.gm (n6c h13 (by decide) (n6c h4 (by decide) (n6a (n6nil)))) hA h29 hb0
            have hV43 := hV20.keepB f30.gm (n6c h13 (by decide) (n6c h4 (by decide) (n6a (n6nil)))) h15 hDa
            show pl _ _ _ (48, [(2, .ref a), (0, .ref o), (1, .int (nI i))], [.int 1], M22) _
            refine ps_if (S1 := (53, [(0, .ref o), (1, .int (nI i))], [], M22)) (S2 := (51, [], [], M22)) rfl rfl rfl (fun c_48 => ?_) (fun c_48 => ?_)
            rotate_left
            · exact absurd (by decide) (of_decide_eq_false c_48)
            refine ps_st (S' := (56, [(1, .int ((nI i) + 1)), (0, .ref o)], [], M22)) rfl rfl rfl ?_
            rw [nI_add1 (p := i) (k := 1) (x := 1) rfl (by omega)]
            show pl _ _ _ (_, [(1, .int (nI (i + 1))), (0, .ref o)], [], M22) _
            refine ps_st (S' := (2, [(0, .ref o), (1, .int (nI (i + 1)))], [], M22)) rfl rfl rfl ?_
            exact ih (i + 1) (t1) (s224) M22 h32 h33 h34 h35 h36 h37 h27 h28 hV41 hV42 hV43  (tp40) (by omega) (by omega) (by
                rw [← hs, flS_st (i := i) (by omega)]
                rw [q34_s]
                try dsimp only
                rw [q45_s]
                try dsimp only
                first | done | rfl)
          · skip
            obtain ⟨e944, q45_s, rfl, h45, f46⟩ := q23
            have h48 := (f46.1 ox (nin3 (ob_ne h7 h13 (by decide)) (ob_ne h7 h4 (by decide)) (ob_ne h7 h15 (by decide)))).trans h7
            have h49 := (f46.1 og (nin3 (ob_ne h8 h13 (by decide)) (ob_ne h8 h4 (by decide)) (ob_ne h8 h15 (by decide)))).trans h8
            have h50 := (f46.1 o (nin3 (ob_ne h9 h13 (by decide)) (ob_ne h9 h4 (by decide)) (ob_ne h9 h15 (by decide)))).trans h9
            have h51 := (f46.1 c (nin3 (ob_ne h10 h13 (by decide)) (ob_ne h10 h4 (by decide)) (ob_ne h10 h15 (by decide)))).trans h10
            have h52 := (f46.1 b (nin3 (ob_ne h11 h13 (by decide)) (ob_ne h11 h4 (by decide)) (ob_ne h11 h15 (by decide)))).trans h11
            have h53 := (f46.1 da (nin3 (Ne.symm (ob_ar h13 h12)) (Ne.symm (ob_ar h4 h12)) (Ne.symm (ob_ar h15 h12)))).trans h12
            have h54 := (f46.1 mm (nin3 (Ne.symm (ob_ro h13 h14)) (Ne.symm (ob_ro h4 h14)) (Ne.symm (ob_ro h15 h14)))).trans h14
            have tp56 : M22.2.1 = t1 := by rw [f46.2]; exact tp17
            have hV57 := hV18.keep f46.gm (n7c h13 (by decide) (n7c h4 (by decide) (n7c h15 (by decide) (n7nil))))
            have hV58 := hV20.keepB f46.gm (n6c h13 (by decide) (n6c h4 (by decide) (n6a (n6nil)))) h15 hDa
            show pl _ _ _ (48, [(2, .ref a), (0, .ref o), (1, .int (nI i))], [.int 0], M22) _
            refine ps_if (S1 := (53, [(0, .ref o), (1, .int (nI i))], [], M22)) (S2 := (51, [], [], M22)) rfl rfl rfl (fun c_48 => ?_) (fun c_48 => ?_)
            · exact absurd (of_decide_eq_true c_48) (by decide)
            refine ps_st (S' := (52, [], [.int 0], M22)) rfl rfl rfl ?_
            exact ps_ret rfl rfl (Or.inr ⟨e944, by
                rw [← hs, flS_st (i := i) (by omega)]
                rw [q34_s]
                try dsimp only
                rw [q45_s]
                try dsimp only
                first | done | rfl, rfl, h45, h49, by omega⟩)
        · skip
          obtain ⟨e59, q34_s, rfl, h60, f61⟩ := q3
          have h63 := (f61.1 ox (nin1 (ob_ne hl_ox hl_vd (by decide)))).trans hl_ox
          have h64 := (f61.1 og (nin1 (ob_ne hl_og hl_vd (by decide)))).trans hl_og
          have h65 := (f61.1 o (nin1 (ob_ne hl_o hl_vd (by decide)))).trans hl_o
          have h66 := (f61.1 c (nin1 (ob_ne hl_c hl_vd (by decide)))).trans hl_c
          have h67 := (f61.1 b (nin1 (ob_ne hl_b hl_vd (by decide)))).trans hl_b
          have h68 := (f61.1 da (nin1 (Ne.symm (ob_ar hl_vd hl_da)))).trans hl_da
          have h69 := (f61.1 ac (nin1 (ob_ne hl_ac hl_vd (by decide)))).trans hl_ac
          have h70 := (f61.1 mm (nin1 (Ne.symm (ob_ro hl_vd h_mm)))).trans h_mm
          have h71 := (f61.1 a (nin1 (ob_ne hc8 hl_vd (by decide)))).trans hc8
          have tp73 : M2.2.1 = t1 := by rw [f61.2]; exact tp1
          have hV74 := hV1.keep f61.gm (n7c hl_vd (by decide) (n7nil))
          have hV75 := hM9.keep f61.gm (n6o hl_vd (by decide) (n6on))
          have hV76 := hM21.keep f61.gm (n6o hl_vd (by decide) (n6on))
          show pl _ _ _ (37, [(2, .ref a), (0, .ref o), (1, .int (nI i))], [.int 0], M2) _
          refine ps_if (S1 := (51, [], [], M2)) (S2 := (40, [(2, .ref a), (0, .ref o), (1, .int (nI i))], [], M2)) rfl rfl rfl (fun c_37 => ?_) (fun c_37 => ?_)
          rotate_left
          · exact absurd (by decide) (of_decide_eq_false c_37)
          refine ps_st (S' := (52, [], [.int 0], M2)) rfl rfl rfl ?_
          exact ps_ret rfl rfl (Or.inr ⟨e59, by
              rw [← hs, flS_st (i := i) (by omega)]
              rw [q34_s]
              try dsimp only
              first | done | rfl, rfl, h60, h64, by omega⟩)
  refine ps_st (S' := (1, [(0, .ref o)], [.int 0], M)) rfl rfl rfl ?_
  refine ps_st (S' := (2, [(0, .ref o), (1, .int 0)], [], M)) rfl rfl rfl ?_
  exact (LL kf) (0) (z0) (s1) M h_ox h_og h_o h_c h_b h_da h_vd h_ac hV hM hM2  (tp0) (Nat.le_refl _) (by omega) (rfl)
set_option maxHeartbeats 1000000 in
theorem dk_methodsHold {g : xe_G} {M : mi_H} {f : Nat → Int32} {n N q : Nat} {E : List (Nat × Nat)} {o c b da vd ac fr fa ic mj na pa : Nat} {mi ru wa k1 k2 k3 k4 k5 k6 k7 : Int32} {ox : Nat} {og ga gf : Nat} {gn gw : Int32} {gk : Value} {s1 : Int32} {B : List Nat} {G : Nat → Nat} {mm : Nat} (h_ox : M.1 ox = some (ob 8 [.ref q, .int (nI mj), .ref vd])) (h_og : M.1 og = some (ob 11 [.ref ga, .int gn, .ref gf, gk, .int gw])) (h_o : M.1 o = some (ob 2 [.ref c, .ref b, .ref q, .ref vd, .ref ac])) (h_c : M.1 c = some (ob 3 [.ref b, .ref q, .int mi, .int (nI mj), .int (nI fa), .int (nI ic), .ref fr, .ref mm, .int (nI na), .int (nI pa), .int k1, .int k2, .int k3, .int k4, .int k5, .int k6, .int k7])) (h_b : M.1 b = some (ob 1 [.ref da])) (h_da : M.1 da = some (ar .byte n f)) (h_vd : M.1 vd = some (ob 10 [.int ru, .int wa])) (h_ac : M.1 ac = some (ob 0 [.ref c, .ref b, .ref q, .ref vd, .int s1])) (hn : n ≤ 65540) (hmj : mj < 65536) (hfa : fa + 8 ≤ n) (hB9 : B.length < 65536) (hB : ∀ i, i < B.length → B.getD i 0 + 8 ≤ n ∧ ∃ e0, s_atts f n (by2 f (B.getD i 0 + 6)) (B.getD i 0 + 8) = .inr e0) (l_o : o < M.2.1) (l_c : c < M.2.1) (l_b : b < M.2.1) (l_da : da < M.2.1) (l_vd : vd < M.2.1) (l_ac : ac < M.2.1) (l_q : q < M.2.1) (l_ox : ox < M.2.1) (l_og : og < M.2.1) (hV : PV g f n N E q M) (hM : MV f B mm G 0 M) : pt (mT g) 67 [.ref o] M (fun v M' => (∃ (s2 : Int32), (mtS f n E (by2 f fa) mj B B.length 0 = none) ∧ (PV g f n N E q M') ∧ v = some (.int 1) ∧ M'.1 ox = some (ob 8 [.ref q, .int (nI mj), .ref vd]) ∧ M'.1 og = some (ob 11 [.ref ga, .int gn, .ref gf, gk, .int gw]) ∧ M'.1 o = some (ob 2 [.ref c, .ref b, .ref q, .ref vd, .ref ac]) ∧ M'.1 c = some (ob 3 [.ref b, .ref q, .int mi, .int (nI mj), .int (nI fa), .int (nI ic), .ref fr, .ref mm, .int (nI na), .int (nI pa), .int k1, .int k2, .int k3, .int k4, .int k5, .int k6, .int k7]) ∧ M'.1 b = some (ob 1 [.ref da]) ∧ M'.1 da = some (ar .byte n f) ∧ M'.1 vd = some (ob 10 [.int ru, .int wa]) ∧ M'.1 ac = some (ob 0 [.ref c, .ref b, .ref q, .ref vd, .int s2]) ∧ M.2.1 ≤ M'.2.1) ∨ (∃ (e9 : Nat × Nat), (mtS f n E (by2 f fa) mj B B.length 0 = some e9) ∧ v = some (.int 0) ∧ M'.1 vd = some (ob 10 [.int (nI e9.1), .int (nI e9.2)]) ∧ M'.1 og = some (ob 11 [.ref ga, .int gn, .ref gf, gk, .int gw]) ∧ M.2.1 ≤ M'.2.1)) := by
  refine pt_in (b := mb_67 g) rfl (fun kf => ?_)
  show pl (mT g) kf (mb_67 g).2 (0, [(0, .ref o)], [], M) _
  obtain ⟨z0, tp0⟩ : ∃ z0, M.2.1 = z0 := ⟨_, rfl⟩
  have LL : ∀ (kf : Nat), (∀ (i t1 : Nat) (s2 : Int32) (M1 : mi_H), (M1.1 ox = some (ob 8 [.ref q, .int (nI mj), .ref vd])) → (M1.1 og = some (ob 11 [.ref ga, .int gn, .ref gf, gk, .int gw])) → (M1.1 o = some (ob 2 [.ref c, .ref b, .ref q, .ref vd, .ref ac])) → (M1.1 c = some (ob 3 [.ref b, .ref q, .int mi, .int (nI mj), .int (nI fa), .int (nI ic), .ref fr, .ref mm, .int (nI na), .int (nI pa), .int k1, .int k2, .int k3, .int k4, .int k5, .int k6, .int k7])) → (M1.1 b = some (ob 1 [.ref da])) → (M1.1 da = some (ar .byte n f)) → (M1.1 vd = some (ob 10 [.int ru, .int wa])) → (M1.1 ac = some (ob 0 [.ref c, .ref b, .ref q, .ref vd, .int s2])) → (PV g f n N E q M1) → (MV f B mm G i M1) → (M1.2.1 = t1) → (z0 ≤ t1) → (i ≤ B.length) → (mtS f n E (by2 f fa) mj B (B.length - i) i = mtS f n E (by2 f fa) mj B B.length 0) →  pl (mT g) kf (mb_67 g).2 (2, [(0, .ref o), (1, .int (nI i))], [], M1) (fun v M' => (∃ (s2 : Int32), (mtS f n E (by2 f fa) mj B B.length 0 = none) ∧ (PV g f n N E q M') ∧ v = some (.int 1) ∧ M'.1 ox = some (ob 8 [.ref q, .int (nI mj), .ref vd]) ∧ M'.1 og = some (ob 11 [.ref ga, .int gn, .ref gf, gk, .int gw]) ∧ M'.1 o = some (ob 2 [.ref c, .ref b, .ref q, .ref vd, .ref ac]) ∧ M'.1 c = some (ob 3 [.ref b, .ref q, .int mi, .int (nI mj), .int (nI fa), .int (nI ic), .ref fr, .ref mm, .int (nI na), .int (nI pa), .int k1, .int k2, .int k3, .int k4, .int k5, .int k6, .int k7]) ∧ M'.1 b = some (ob 1 [.ref da]) ∧ M'.1 da = some (ar .byte n f) ∧ M'.1 vd = some (ob 10 [.int ru, .int wa]) ∧ M'.1 ac = some (ob 0 [.ref c, .ref b, .ref q, .ref vd, .int s2]) ∧ M.2.1 ≤ M'.2.1) ∨ (∃ (e9 : Nat × Nat), (mtS f n E (by2 f fa) mj B B.length 0 = some e9) ∧ v = some (.int 0) ∧ M'.1 vd = some (ob 10 [.int (nI e9.1), .int (nI e9.2)]) ∧ M'.1 og = some (ob 11 [.ref ga, .int gn, .ref gf, gk, .int gw]) ∧ M.2.1 ≤ M'.2.1))) := by
    intro kf
    induction kf with
    | zero => exact (by intros; exact pl_0)
    | succ kf ih =>
      intro i t1 s2 M1 hl_ox hl_og hl_o hl_c hl_b hl_da hl_vd hl_ac hV1 hM1 tp1 ht hi hs
      refine ps_st1 (S' := (3, [(0, .ref o), (1, .int (nI i))], [.int (nI i)], M1)) rfl rfl rfl ?_
      obtain ⟨R, h_mm, hR⟩ := hM1.2.1
      have l_mm := hM1.1
      refine ps_st (S' := (4, [(0, .ref o), (1, .int (nI i))], [.ref o, .int (nI i)], M1)) rfl rfl rfl ?_
      refine ps_get (S' := (7, [(0, .ref o), (1, .int (nI i))], [.ref c, .int (nI i)], M1)) rfl hl_o rfl rfl ?_
      refine ps_get (S' := (10, [(0, .ref o), (1, .int (nI i))], [.ref mm, .int (nI i)], M1)) rfl hl_c rfl rfl ?_
      refine ps_aalen (S' := (11, [(0, .ref o), (1, .int (nI i))], [.int (nI B.length), .int (nI i)], M1)) rfl h_mm rfl ?_
      refine ps_if2 (S1 := (67, [(0, .ref o), (1, .int (nI i))], [], M1)) (S2 := (14, [(0, .ref o), (1, .int (nI i))], [], M1)) rfl rfl rfl (fun c_11 => ?_) (fun c_11 => ?_)
      · have c_11 : (nI B.length) ≤ (nI i) := of_decide_eq_true c_11
        have n_11 : B.length ≤ i := (le_nI (p := B.length) (n := i) (by omega) (by omega)).mp c_11
        refine ps_st (S' := (68, [(0, .ref o), (1, .int (nI i))], [.int 1], M1)) rfl rfl rfl ?_
        exact ps_ret rfl rfl (Or.inl ⟨s2, by rw [← hs, show B.length - i = 0 by omega]; rfl, hV1, rfl, hl_ox, hl_og, hl_o, hl_c, hl_b, hl_da, hl_vd, hl_ac, by omega⟩)
      · have c_11 : ¬ ((nI B.length) ≤ (nI i)) := of_decide_eq_false c_11
        have n_11 : ¬ (B.length ≤ i) := fun h9 => c_11 ((le_nI (p := B.length) (n := i) (by omega) (by omega)).mpr h9)
        refine ps_st (S' := (15, [(0, .ref o), (1, .int (nI i))], [.ref o], M1)) rfl rfl rfl ?_
        refine ps_get (S' := (18, [(0, .ref o), (1, .int (nI i))], [.ref c], M1)) rfl hl_o rfl rfl ?_
        refine ps_get (S' := (21, [(0, .ref o), (1, .int (nI i))], [.ref mm], M1)) rfl hl_c rfl rfl ?_
        refine ps_st (S' := (22, [(0, .ref o), (1, .int (nI i))], [.int (nI i), .ref mm], M1)) rfl rfl rfl ?_
        obtain ⟨hl8, y1, y2, y3, y4, yv, hc8, hv8⟩ := hM1.2.2.2 i (by omega)
        obtain ⟨a, ha⟩ : ∃ a, G i = a := ⟨_, rfl⟩
        rw [ha] at hc8 hl8
        have hA : G i = a ∧ i < B.length ∧ i < i + 1 := ⟨ha, by omega, by omega⟩
        have hM9 := hM1.le (Nat.le_succ i)
        have hb0 : B.getD i 0 = B.getD i 0 := rfl
        have hv9 := (hv8 (Nat.le_refl _)).2.2.2.2
        subst hv9
        obtain ⟨hb1, e0, hat⟩ := hB i (by omega)
        refine ps_aald (S' := (23, [(0, .ref o), (1, .int (nI i))], [.ref a], M1)) rfl h_mm (⟨by omega, by rw [hR i (by omega), ha]⟩) rfl ?_
        refine ps_st (S' := (24, [(2, .ref a), (0, .ref o), (1, .int (nI i))], [], M1)) rfl rfl rfl ?_
        refine ps_st (S' := (25, [(2, .ref a), (0, .ref o), (1, .int (nI i))], [.ref a], M1)) rfl rfl rfl ?_
        refine ps_st (S' := (31, [(2, .ref a), (0, .ref o), (1, .int (nI i))], [], M1)) rfl rfl rfl ?_
        refine ps_st (S' := (32, [(2, .ref a), (0, .ref o), (1, .int (nI i))], [.ref o], M1)) rfl rfl rfl ?_
        refine ps_st (S' := (33, [(2, .ref a), (0, .ref o), (1, .int (nI i))], [.ref a, .ref o], M1)) rfl rfl rfl ?_
        refine ps_st (S' := (34, [(2, .ref a), (0, .ref o), (1, .int (nI i))], [.int (nI i), .ref a, .ref o], M1)) rfl rfl rfl ?_
        refine pl_call (a := [.ref o, .ref a, .int (nI i)]) (rest := []) rfl rfl rfl (dk_methodHolds (f := f) (n := n) (N := N) (q := q) (E := E) (o := o) (c := c) (b := b) (da := da) (vd := vd) (ac := ac) (fr := fr) (fa := fa) (ic := ic) (mj := mj) (na := na) (pa := pa) (mi := mi) (ru := ru) (wa := wa) (k1 := k1) (k2 := k2) (k3 := k3) (k4 := k4) (k5 := k5) (k6 := k6) (k7 := k7) (a := a) (b0 := (B.getD i 0)) (kn := y1) (co := y2) (ap := y3) (ex := y4) (cd := .null) (B := B) (G := G) (mm := mm) (kk := (i + 1)) (i0 := i) hl_o hl_c hl_b hl_da hl_vd hc8 (hn) (hmj) (hfa) (hA) (rfl) (hB9) (hb1) (hV1) (hM9)) (fun v1 M2 q3 => ?_)
        rcases q3 with q3 | q3
        · skip
          obtain ⟨q34_s, rfl, h4, h5, f6⟩ := q3
          have h8 := (f6.1 ox (nin2 (ob_ne hl_ox hl_vd (by decide)) (ob_ne hl_ox hc8 (by decide)))).trans hl_ox
          have h9 := (f6.1 og (nin2 (ob_ne hl_og hl_vd (by decide)) (ob_ne hl_og hc8 (by decide)))).trans hl_og
          have h10 := (f6.1 o (nin2 (ob_ne hl_o hl_vd (by decide)) (ob_ne hl_o hc8 (by decide)))).trans hl_o
          have h11 := (f6.1 c (nin2 (ob_ne hl_c hl_vd (by decide)) (ob_ne hl_c hc8 (by decide)))).trans hl_c
          have h12 := (f6.1 b (nin2 (ob_ne hl_b hl_vd (by decide)) (ob_ne hl_b hc8 (by decide)))).trans hl_b
          have h13 := (f6.1 da (nin2 (Ne.symm (ob_ar hl_vd hl_da)) (Ne.symm (ob_ar hc8 hl_da)))).trans hl_da
          have h14 := (f6.1 ac (nin2 (ob_ne hl_ac hl_vd (by decide)) (ob_ne hl_ac hc8 (by decide)))).trans hl_ac
          have h15 := (f6.1 mm (nin2 (Ne.symm (ob_ro hl_vd h_mm)) (Ne.symm (ob_ro hc8 h_mm)))).trans h_mm
          have tp17 : M2.2.1 = t1 := by rw [f6.2]; exact tp1
          have hV18 := hV1.keep f6.gm (n7c hl_vd (by decide) (n7c hc8 (by decide) (n7nil)))
          have hV19 := hM9.keepA f6.gm (n6c hl_vd (by decide) (n6a (n6nil))) hA h5 hb0
          show pl _ _ _ (37, [(2, .ref a), (0, .ref o), (1, .int (nI i))], [.int 1], M2) _
          refine ps_if (S1 := (59, [], [], M2)) (S2 := (40, [(2, .ref a), (0, .ref o), (1, .int (nI i))], [], M2)) rfl rfl rfl (fun c_37 => ?_) (fun c_37 => ?_)
          · exact absurd (of_decide_eq_true c_37) (by decide)
          refine ps_st (S' := (41, [(2, .ref a), (0, .ref o), (1, .int (nI i))], [.ref o], M2)) rfl rfl rfl ?_
          refine ps_get (S' := (44, [(2, .ref a), (0, .ref o), (1, .int (nI i))], [.ref ac], M2)) rfl h10 rfl rfl ?_
          refine ps_st (S' := (45, [(2, .ref a), (0, .ref o), (1, .int (nI i))], [.ref a, .ref ac], M2)) rfl rfl rfl ?_
          refine pl_call (a := [.ref ac, .ref a]) (rest := []) rfl rfl rfl (dk_ofMethod (f := f) (n := n) (N := N) (q := q) (E := E) (ac := ac) (c := c) (b := b) (da := da) (vd := vd) (fr := fr) (mr := mm) (fa := fa) (ic := ic) (mj := mj) (na := na) (pa := pa) (mi := mi) (ru := ru) (wa := wa) (s1 := s2) (k1 := k1) (k2 := k2) (k3 := k3) (k4 := k4) (k5 := k5) (k6 := k6) (k7 := k7) (a := a) (b0 := (B.getD i 0)) (e0 := e0) (w := (apN f n E (B.getD i 0))) (kn := y1) (co := y2) (ex := y4) h14 h12 h13 h11 h4 h5 (hn) (hmj) (hb1) (hat) (Nat.lt_trans (apN_lt _ _ _ _) (by decide)) (hV18) (by omega) (by omega) (by omega) (by omega) (by omega) (by omega) (by omega)) (fun v20 M21 q22 => ?_)
          rcases q22 with q22 | q22
          · skip
            obtain ⟨h23, s224, kn225, ex226, cd227, q45_s, q45_h, rfl, h28, h29, h30, f31, tp32⟩ := q22
            have h33 := (f31.1 ox (by omega) (nin3 (ob_ne h8 h14 (by decide)) (ob_ne h8 h4 (by decide)) (ob_ne h8 h5 (by decide)))).trans h8
            have h34 := (f31.1 og (by omega) (nin3 (ob_ne h9 h14 (by decide)) (ob_ne h9 h4 (by decide)) (ob_ne h9 h5 (by decide)))).trans h9
            have h35 := (f31.1 o (by omega) (nin3 (ob_ne h10 h14 (by decide)) (ob_ne h10 h4 (by decide)) (ob_ne h10 h5 (by decide)))).trans h10
            have h36 := (f31.1 c (by omega) (nin3 (ob_ne h11 h14 (by decide)) (ob_ne h11 h4 (by decide)) (ob_ne h11 h5 (by decide)))).trans h11
            have h37 := (f31.1 b (by omega) (nin3 (ob_ne h12 h14 (by decide)) (ob_ne h12 h4 (by decide)) (ob_ne h12 h5 (by decide)))).trans h12
            have h38 := (f31.1 da (by omega) (nin3 (Ne.symm (ob_ar h14 h13)) (Ne.symm (ob_ar h4 h13)) (Ne.symm (ob_ar h5 h13)))).trans h13
            have h39 := (f31.1 mm (by omega) (nin3 (Ne.symm (ob_ro h14 h15)) (Ne.symm (ob_ro h4 h15)) (Ne.symm (ob_ro h5 h15)))).trans h15
            obtain ⟨t41, tp42⟩ : ∃ t9, M21.2.1 = t9 := ⟨_, rfl⟩
            rw [tp17, tp42] at tp32
            have hV43 := hV18.keep f31 (n7c h14 (by decide) (n7c h4 (by decide) (n7c h5 (by decide) (n7nil))))
            have hV44 := hV19.keepA f31 (n6c h14 (by decide) (n6c h4 (by decide) (n6a (n6nil)))) hA h30 hb0
            show pl _ _ _ (48, [(2, .ref a), (0, .ref o), (1, .int (nI i))], [.int 1], M21) _
            refine ps_if (S1 := (59, [], [], M21)) (S2 := (51, [(2, .ref a), (0, .ref o), (1, .int (nI i))], [], M21)) rfl rfl rfl (fun c_48 => ?_) (fun c_48 => ?_)
            · exact absurd (of_decide_eq_true c_48) (by decide)
            refine ps_st (S' := (52, [(2, .ref a), (0, .ref o), (1, .int (nI i))], [.ref o], M21)) rfl rfl rfl ?_
            refine ps_st (S' := (53, [(2, .ref a), (0, .ref o), (1, .int (nI i))], [.ref a, .ref o], M21)) rfl rfl rfl ?_
            refine pl_call (a := [.ref o, .ref a]) (rest := []) rfl rfl rfl (dk_codeIsDue (f := f) (n := n) (N := N) (q := q) (E := E) (o := o) (c := c) (b := b) (da := da) (vd := vd) (ac := ac) (fr := fr) (mr := mm) (fa := fa) (ic := ic) (mj := mj) (na := na) (pa := pa) (mi := mi) (ru := ru) (wa := wa) (k1 := k1) (k2 := k2) (k3 := k3) (k4 := k4) (k5 := k5) (k6 := k6) (k7 := k7) (a := a) (b0 := (B.getD i 0)) (kn := kn225) (co := y2) (ap := (nI (apN f n E (B.getD i 0)))) (ex := ex226) (cd := cd227) (h := h23) h35 h36 h37 h38 h28 h30 (hn) (hmj) (hfa) (q45_h) (hV43)) (fun v45 M46 q47 => ?_)
            rcases q47 with q47 | q47
            · skip
              obtain ⟨q53_s, rfl, h48, f49⟩ := q47
              have h51 := (f49.1 ox (nin1 (ob_ne h33 h28 (by decide)))).trans h33
              have h52 := (f49.1 og (nin1 (ob_ne h34 h28 (by decide)))).trans h34
              have h53 := (f49.1 o (nin1 (ob_ne h35 h28 (by decide)))).trans h35
              have h54 := (f49.1 c (nin1 (ob_ne h36 h28 (by decide)))).trans h36
              have h55 := (f49.1 b (nin1 (ob_ne h37 h28 (by decide)))).trans h37
              have h56 := (f49.1 da (nin1 (Ne.symm (ob_ar h28 h38)))).trans h38
              have h57 := (f49.1 ac (nin1 (ob_ne h29 h28 (by decide)))).trans h29
              have h58 := (f49.1 mm (nin1 (Ne.symm (ob_ro h28 h39)))).trans h39
              have h59 := (f49.1 a (nin1 (ob_ne h30 h28 (by decide)))).trans h30
              have tp61 : M46.2.1 = t41 := by rw [f49.2]; exact tp42
              have hV62 := hV43.keep f49.gm (n7c h28 (by decide) (n7nil))
              have hV63 := hV44.keep f49.gm (n6o h28 (by decide) (n6on))
              show pl _ _ _ (56, [(2, .ref a), (0, .ref o), (1, .int (nI i))], [.int 1], M46) _
              refine ps_if (S1 := (61, [(0, .ref o), (1, .int (nI i))], [], M46)) (S2 := (59, [], [], M46)) rfl rfl rfl (fun c_56 => ?_) (fun c_56 => ?_)
              rotate_left
              · exact absurd (by decide) (of_decide_eq_false c_56)
              refine ps_st (S' := (64, [(1, .int ((nI i) + 1)), (0, .ref o)], [], M46)) rfl rfl rfl ?_
              rw [nI_add1 (p := i) (k := 1) (x := 1) rfl (by omega)]
              show pl _ _ _ (_, [(1, .int (nI (i + 1))), (0, .ref o)], [], M46) _
              refine ps_st (S' := (2, [(0, .ref o), (1, .int (nI (i + 1)))], [], M46)) rfl rfl rfl ?_
              exact ih (i + 1) (t41) (s224) M46 h51 h52 h53 h54 h55 h56 h48 h57 hV62 hV63  (tp61) (by omega) (by omega) (by
                  rw [← hs, mtS_st (i := i) (by omega)]
                  rw [q34_s]
                  try dsimp only
                  rw [q45_s]
                  try dsimp only
                  rw [q53_s]
                  try dsimp only
                  first | done | rfl)
            · skip
              obtain ⟨e64, q53_s, rfl, h65, f66⟩ := q47
              have h68 := (f66.1 ox (nin1 (ob_ne h33 h28 (by decide)))).trans h33
              have h69 := (f66.1 og (nin1 (ob_ne h34 h28 (by decide)))).trans h34
              have h70 := (f66.1 o (nin1 (ob_ne h35 h28 (by decide)))).trans h35
              have h71 := (f66.1 c (nin1 (ob_ne h36 h28 (by decide)))).trans h36
              have h72 := (f66.1 b (nin1 (ob_ne h37 h28 (by decide)))).trans h37
              have h73 := (f66.1 da (nin1 (Ne.symm (ob_ar h28 h38)))).trans h38
              have h74 := (f66.1 ac (nin1 (ob_ne h29 h28 (by decide)))).trans h29
              have h75 := (f66.1 mm (nin1 (Ne.symm (ob_ro h28 h39)))).trans h39
              have h76 := (f66.1 a (nin1 (ob_ne h30 h28 (by decide)))).trans h30
              have tp78 : M46.2.1 = t41 := by rw [f66.2]; exact tp42
              have hV79 := hV43.keep f66.gm (n7c h28 (by decide) (n7nil))
              have hV80 := hV44.keep f66.gm (n6o h28 (by decide) (n6on))
              show pl _ _ _ (56, [(2, .ref a), (0, .ref o), (1, .int (nI i))], [.int 0], M46) _
              refine ps_if (S1 := (61, [(0, .ref o), (1, .int (nI i))], [], M46)) (S2 := (59, [], [], M46)) rfl rfl rfl (fun c_56 => ?_) (fun c_56 => ?_)
              · exact absurd (of_decide_eq_true c_56) (by decide)
              refine ps_st (S' := (60, [], [.int 0], M46)) rfl rfl rfl ?_
              exact ps_ret rfl rfl (Or.inr ⟨e64, by
                  rw [← hs, mtS_st (i := i) (by omega)]
                  rw [q34_s]
                  try dsimp only
                  rw [q45_s]
                  try dsimp only
                  rw [q53_s]
                  try dsimp only
                  first | done | rfl, rfl, h65, h69, by omega⟩)
          · skip
            obtain ⟨e981, q45_s, rfl, h82, f83, tp84⟩ := q22
            have h85 := (f83.1 ox (by omega) (nin3 (ob_ne h8 h14 (by decide)) (ob_ne h8 h4 (by decide)) (ob_ne h8 h5 (by decide)))).trans h8
            have h86 := (f83.1 og (by omega) (nin3 (ob_ne h9 h14 (by decide)) (ob_ne h9 h4 (by decide)) (ob_ne h9 h5 (by decide)))).trans h9
            have h87 := (f83.1 o (by omega) (nin3 (ob_ne h10 h14 (by decide)) (ob_ne h10 h4 (by decide)) (ob_ne h10 h5 (by decide)))).trans h10
            have h88 := (f83.1 c (by omega) (nin3 (ob_ne h11 h14 (by decide)) (ob_ne h11 h4 (by decide)) (ob_ne h11 h5 (by decide)))).trans h11
            have h89 := (f83.1 b (by omega) (nin3 (ob_ne h12 h14 (by decide)) (ob_ne h12 h4 (by decide)) (ob_ne h12 h5 (by decide)))).trans h12
            have h90 := (f83.1 da (by omega) (nin3 (Ne.symm (ob_ar h14 h13)) (Ne.symm (ob_ar h4 h13)) (Ne.symm (ob_ar h5 h13)))).trans h13
            have h91 := (f83.1 mm (by omega) (nin3 (Ne.symm (ob_ro h14 h15)) (Ne.symm (ob_ro h4 h15)) (Ne.symm (ob_ro h5 h15)))).trans h15
            obtain ⟨t93, tp94⟩ : ∃ t9, M21.2.1 = t9 := ⟨_, rfl⟩
            rw [tp17, tp94] at tp84
            have hV95 := hV18.keep f83 (n7c h14 (by decide) (n7c h4 (by decide) (n7c h5 (by decide) (n7nil))))
            show pl _ _ _ (48, [(2, .ref a), (0, .ref o), (1, .int (nI i))], [.int 0], M21) _
            refine ps_if (S1 := (59, [], [], M21)) (S2 := (51, [(2, .ref a), (0, .ref o), (1, .int (nI i))], [], M21)) rfl rfl rfl (fun c_48 => ?_) (fun c_48 => ?_)
            rotate_left
            · exact absurd (by decide) (of_decide_eq_false c_48)
            refine ps_st (S' := (60, [], [.int 0], M21)) rfl rfl rfl ?_
            exact ps_ret rfl rfl (Or.inr ⟨e981, by
                rw [← hs, mtS_st (i := i) (by omega)]
                rw [q34_s]
                try dsimp only
                rw [q45_s]
                try dsimp only
                first | done | rfl, rfl, h82, h86, by omega⟩)
        · skip
          obtain ⟨e96, q34_s, rfl, h97, f98⟩ := q3
          have h100 := (f98.1 ox (nin2 (ob_ne hl_ox hl_vd (by decide)) (ob_ne hl_ox hc8 (by decide)))).trans hl_ox
          have h101 := (f98.1 og (nin2 (ob_ne hl_og hl_vd (by decide)) (ob_ne hl_og hc8 (by decide)))).trans hl_og
          have h102 := (f98.1 o (nin2 (ob_ne hl_o hl_vd (by decide)) (ob_ne hl_o hc8 (by decide)))).trans hl_o
          have h103 := (f98.1 c (nin2 (ob_ne hl_c hl_vd (by decide)) (ob_ne hl_c hc8 (by decide)))).trans hl_c
          have h104 := (f98.1 b (nin2 (ob_ne hl_b hl_vd (by decide)) (ob_ne hl_b hc8 (by decide)))).trans hl_b
          have h105 := (f98.1 da (nin2 (Ne.symm (ob_ar hl_vd hl_da)) (Ne.symm (ob_ar hc8 hl_da)))).trans hl_da
          have h106 := (f98.1 ac (nin2 (ob_ne hl_ac hl_vd (by decide)) (ob_ne hl_ac hc8 (by decide)))).trans hl_ac
          have h107 := (f98.1 mm (nin2 (Ne.symm (ob_ro hl_vd h_mm)) (Ne.symm (ob_ro hc8 h_mm)))).trans h_mm
          have tp109 : M2.2.1 = t1 := by rw [f98.2]; exact tp1
          have hV110 := hV1.keep f98.gm (n7c hl_vd (by decide) (n7c hc8 (by decide) (n7nil)))
          show pl _ _ _ (37, [(2, .ref a), (0, .ref o), (1, .int (nI i))], [.int 0], M2) _
          refine ps_if (S1 := (59, [], [], M2)) (S2 := (40, [(2, .ref a), (0, .ref o), (1, .int (nI i))], [], M2)) rfl rfl rfl (fun c_37 => ?_) (fun c_37 => ?_)
          rotate_left
          · exact absurd (by decide) (of_decide_eq_false c_37)
          refine ps_st (S' := (60, [], [.int 0], M2)) rfl rfl rfl ?_
          exact ps_ret rfl rfl (Or.inr ⟨e96, by
              rw [← hs, mtS_st (i := i) (by omega)]
              rw [q34_s]
              try dsimp only
              first | done | rfl, rfl, h97, h101, by omega⟩)
  refine ps_st (S' := (1, [(0, .ref o)], [.int 0], M)) rfl rfl rfl ?_
  refine ps_st (S' := (2, [(0, .ref o), (1, .int 0)], [], M)) rfl rfl rfl ?_
  exact (LL kf) (0) (z0) (s1) M h_ox h_og h_o h_c h_b h_da h_vd h_ac hV hM  (tp0) (Nat.le_refl _) (by omega) (rfl)
end
section
/-! reading members, and the end (laid by wip/p4/d16.py) -/

section MRA
variable {M M' : mi_H}
/-- where c members begin -/
def mbs (f : Nat → Int32) (n : Nat) : Nat → Nat → List Nat
  | 0, _ => []
  | c + 1, p => p :: (match s_attributes f n (p + 6) with
    | .inl _ => []
    | .inr p' => mbs f n c p')
def s_mbs (f : Nat → Int32) (n p : Nat) : (Nat × Nat) ⊕ Nat := if n < p + 2 then .inl (1, p) else s_mems f n (by2 f p) (p + 2)
def s_end (f : Nat → Int32) (n p : Nat) : Option (Nat × Nat) := match s_attributes f n p with
  | .inl e => some e
  | .inr p' => if p' = n then none else some (8, p')
theorem s_attributes_le2 {f : Nat → Int32} {n p p' : Nat} (h : s_attributes f n p = .inr p') : p + 2 ≤ p' ∧ p' ≤ n := by
  unfold s_attributes at h
  split at h
  · cases h
  · have := s_atts_le (by omega) h
    omega
theorem s_mems_st {f : Nat → Int32} {n c i p : Nat} (h : i < c) : s_mems f n (c - i) p = if n < p + 2 then .inl (1, p) else if n < p + 4 then .inl (1, p + 2) else if n < p + 6 then .inl (1, p + 4) else
    match s_attributes f n (p + 6) with
    | .inl e => .inl e
    | .inr p' => s_mems f n (c - (i + 1)) p' := by
  rw [show c - i = (c - (i + 1)) + 1 by omega]
  rfl
theorem mbs_st {f : Nat → Int32} {n c i p : Nat} (h : i < c) : mbs f n (c - i) p = p :: (match s_attributes f n (p + 6) with
    | .inl _ => []
    | .inr p' => mbs f n (c - (i + 1)) p') := by
  rw [show c - i = (c - (i + 1)) + 1 by omega]
  rfl
/-- members are well in the file -/
theorem mbs_in {f : Nat → Int32} {n : Nat} : ∀ {c p p' : Nat}, s_mems f n c p = .inr p' → (mbs f n c p).length = c ∧ ∀ i, i < (mbs f n c p).length → (mbs f n c p).getD i 0 + 8 ≤ n ∧ ∃ e0, s_atts f n (by2 f ((mbs f n c p).getD i 0 + 6)) ((mbs f n c p).getD i 0 + 8) = .inr e0 := by
  intro c
  induction c with
  | zero => intro p p' h; exact ⟨rfl, fun i hi => by cases hi⟩
  | succ c ih =>
    intro p p' h
    unfold s_mems at h
    split at h
    · cases h
    · split at h
      · cases h
      · split at h
        · cases h
        · cases ha : s_attributes f n (p + 6) with
          | inl e => rw [ha] at h; cases h
          | inr x =>
            rw [ha] at h
            have h2 := ih h
            have e : mbs f n (c + 1) p = p :: mbs f n c x := by
              show p :: _ = _
              rw [ha]
            rw [e]
            refine ⟨by rw [List.length_cons, h2.1], fun i hi => ?_⟩
            cases i with
            | zero =>
              show p + 8 ≤ n ∧ ∃ e0, s_atts f n (by2 f (p + 6)) (p + 8) = .inr e0
              have h3 := s_attributes_le2 ha
              unfold s_attributes at ha
              rw [if_neg (by omega)] at ha
              exact ⟨by omega, x, ha⟩
            | succ i => exact h2.2 i (by rw [List.length_cons] at hi; omega)
/-- members made so far, one behind the other from z0 on -/
def MR (f : Nat → Int32) (B : List Nat) (z0 i : Nat) (M : mi_H) : Prop := ∀ j, j < i → z0 + j < M.2.1 ∧ M.1 (z0 + j) = some (mcell f (B.getD j 0) 0 0 0 0 .null)
theorem MR.keep {f : Nat → Int32} {B S : List Nat} {z0 i : Nat} (h : MR f B z0 i M) (hf : gm S M M') (hs : ∀ z ∈ S, z < z0 ∨ z0 + i ≤ z) : MR f B z0 i M' := fun j hj => by
  obtain ⟨h1, h2⟩ := h j hj
  exact ⟨Nat.lt_of_lt_of_le h1 hf.2, (hf.1 _ h1 (fun hz => by have := hs _ hz; omega)).trans h2⟩
theorem nMnil {z0 i : Nat} : ∀ z ∈ ([] : List Nat), z < z0 ∨ z0 + i ≤ z := fun z hz => by cases hz
theorem nMc {z0 i a : Nat} {S : List Nat} (h : a < z0 ∨ z0 + i ≤ a) (hs : ∀ z ∈ S, z < z0 ∨ z0 + i ≤ z) : ∀ z ∈ a :: S, z < z0 ∨ z0 + i ≤ z := fun z hz => by
  rcases List.mem_cons.mp hz with rfl | hz
  · exact h
  · exact hs z hz
theorem MR.put {f : Nat → Int32} {B : List Nat} {z0 i a : Nat} (h : MR f B z0 i M) (ha : a < z0 ∨ z0 + i ≤ a) (hf : ∀ z, z ≠ a → M'.1 z = M.1 z) (hz : M'.2 = M.2) : MR f B z0 i M' :=
  h.keep (S := [a]) ⟨fun z _ h9 => hf z (fun e => h9 (by rw [e]; exact List.mem_cons_self)), by rw [hz]; exact Nat.le_refl _⟩ (nMc ha nMnil)
theorem MR.new {f : Nat → Int32} {B : List Nat} {z0 i a : Nat} (h : MR f B z0 i M) (ht : M.2.1 = a) (hf : ∀ z, z ≠ a → M'.1 z = M.1 z) (hz : M'.2.1 = a + 1) : MR f B z0 i M' :=
  h.keep (S := []) ⟨fun z hl _ => hf z (by omega), by omega⟩ nMnil
theorem getD_lo {B : List Nat} {x j : Nat} (h : j < B.length) : (B ++ [x]).getD j 0 = B.getD j 0 := by
  rw [List.getD_eq_getElem?_getD, List.getD_eq_getElem?_getD, List.getElem?_append_left h]
theorem getD_at {B : List Nat} {x : Nat} : (B ++ [x]).getD B.length 0 = x := by
  rw [List.getD_eq_getElem?_getD, List.getElem?_append_right (Nat.le_refl _), Nat.sub_self]
  rfl
theorem MR.snoc {f : Nat → Int32} {B : List Nat} {z0 i b : Nat} (h : MR f B z0 i M) (hB : B.length = i) (hc : M.1 (z0 + i) = some (mcell f b 0 0 0 0 .null)) (hl : z0 + i < M.2.1) : MR f (B ++ [b]) z0 (i + 1) M := fun j hj => by
  by_cases h1 : j = i
  · subst h1
    rw [← hB, getD_at, hB]
    exact ⟨hl, hc⟩
  · rw [getD_lo (by omega)]
    exact h j (by omega)
theorem upv_to {R : Nat → Value} {z0 i : Nat} (h : ∀ j, j < i → R j = .ref (z0 + j)) : ∀ j, j < i + 1 → upv R i (.ref (z0 + i)) j = .ref (z0 + j) := fun j hj => by
  unfold upv
  split
  · rename_i h1
    rw [h1]
  · exact h j (by omega)
theorem MR.mv {f : Nat → Int32} {B : List Nat} {mm z0 i : Nat} {R : Nat → Value} (h : MR f B z0 i M) (hB : B.length = i) (hm : M.1 mm = some (ro "ClassGate$Member" i R)) (hR : ∀ j, j < i → R j = .ref (z0 + j)) (hl : mm < M.2.1) : MV f B mm (fun j => z0 + j) 0 M := by
  subst hB
  refine ⟨hl, ⟨R, hm, hR⟩, fun a b _ _ e => ?_, fun j hj => ⟨(h j hj).1, 0, 0, 0, 0, .null, (h j hj).2, fun _ => ⟨rfl, rfl, rfl, rfl, rfl⟩⟩⟩
  have : z0 + a = z0 + b := e
  omega
end MRA
theorem dk_takes2 {g : xe_G} {M : mi_H} {r c b vd da n p : Nat} {f : Nat → Int32} {it ru wa : Int32} (h_r : M.1 r = some (ob 9 [.ref c, .ref b, .ref vd, .int (nI p), .int it])) (h_b : M.1 b = some (ob 1 [.ref da])) (h_da : M.1 da = some (ar .byte n f)) (h_vd : M.1 vd = some (ob 10 [.int ru, .int wa])) (hn : n ≤ 65540) (hp : p ≤ n) : pt (mT g) 159 [.ref r, .int 2] M (fun v M' => ((p + 2 ≤ n) ∧ v = some (.int 1) ∧ M'.1 r = some (ob 9 [.ref c, .ref b, .ref vd, .int (nI (p + 2)), .int (nI (by2 f p))]) ∧ M'.1 vd = some (ob 10 [.int ru, .int wa]) ∧ fm [r, vd] M M') ∨ ((n < p + 2) ∧ v = some (.int 0) ∧ M'.1 r = some (ob 9 [.ref c, .ref b, .ref vd, .int (nI p), .int it]) ∧ M'.1 vd = some (ob 10 [.int 1, .int (nI p)]) ∧ fm [r, vd] M M')) := dx_takes2 h_r h_b h_da h_vd hn hp
theorem dk_takesAttributes {g : xe_G} {M : mi_H} {r c b vd da n p : Nat} {f : Nat → Int32} {it ru wa : Int32} (h_r : M.1 r = some (ob 9 [.ref c, .ref b, .ref vd, .int (nI p), .int it])) (h_b : M.1 b = some (ob 1 [.ref da])) (h_da : M.1 da = some (ar .byte n f)) (h_vd : M.1 vd = some (ob 10 [.int ru, .int wa])) (hn : n ≤ 65540) (hp : p ≤ n) : pt (mT g) 160 [.ref r] M (fun v M' => (∃ (p' : Nat) (it' : Int32), (s_attributes f n p = .inr p') ∧ v = some (.int 1) ∧ M'.1 r = some (ob 9 [.ref c, .ref b, .ref vd, .int (nI p'), .int it']) ∧ M'.1 vd = some (ob 10 [.int ru, .int wa]) ∧ fm [r, vd] M M') ∨ (∃ (e : Nat × Nat), (s_attributes f n p = .inl e) ∧ v = some (.int 0) ∧ M'.1 vd = some (ob 10 [.int (nI e.1), .int (nI e.2)]) ∧ fm [r, vd] M M')) := dx_takesAttributes h_r h_b h_da h_vd hn hp
theorem dk_size {g : xe_G} {M : mi_H} {f : Nat → Int32} {n b da : Nat} (h_b : M.1 b = some (ob 1 [.ref da])) (h_da : M.1 da = some (ar .byte n f)) (hn : n ≤ 65540) : pt (mT g) 47 [.ref b] M (fun v M' => (v = some (.int (nI n)) ∧ M = M')) := (ct_size ⟨h_b, h_da, by omega⟩ (d := 1) (by decide)).pt.mono (fun v M' h => ⟨h.1, h.2.symm⟩)
theorem dk_u2g {g : xe_G} {M : mi_H} {f : Nat → Int32} {n b da : Nat} {x : Int32} (h_b : M.1 b = some (ob 1 [.ref da])) (h_da : M.1 da = some (ar .byte n f)) (hn : n ≤ 65540) : pt (mT g) 49 [.ref b, .int x] M (fun v M' => (v = some (.int (sp_u2 n f x)) ∧ M = M')) := (ct_u2 ⟨h_b, h_da, by omega⟩ (d := 3) (by decide)).pt.mono (fun v M' h => ⟨h.1, h.2.symm⟩)
set_option maxHeartbeats 1000000 in
theorem dk_roomFor {g : xe_G} {M : mi_H} {r c b vd da n p : Nat} {f : Nat → Int32} {it : Int32} {t : Nat} (h_r : M.1 r = some (ob 9 [.ref c, .ref b, .ref vd, .int (nI p), .int it])) (h_b : M.1 b = some (ob 1 [.ref da])) (h_da : M.1 da = some (ar .byte n f)) (hn : n ≤ 65540) (hp : p ≤ n) (ht : t < 65536) : pt (mT g) 158 [.ref r, .int (nI t)] M (fun v M' => (v = some (.int (nI (min t ((n - p) / 8)))) ∧ M = M')) := by
  refine pt_in (b := mb_158 g) rfl (fun kf => ?_)
  show pl (mT g) kf (mb_158 g).2 (0, [(0, .ref r), (1, .int (nI t))], [], M) _
  refine ps_st (S' := (1, [(0, .ref r), (1, .int (nI t))], [.int 0], M)) rfl rfl rfl ?_
  refine ps_st (S' := (2, [(0, .ref r), (1, .int (nI t))], [.int (nI t), .int 0], M)) rfl rfl rfl ?_
  refine ps_st (S' := (3, [(0, .ref r), (1, .int (nI t))], [.ref r, .int (nI t), .int 0], M)) rfl rfl rfl ?_
  refine ps_get (S' := (6, [(0, .ref r), (1, .int (nI t))], [.ref b, .int (nI t), .int 0], M)) rfl h_r rfl rfl ?_
  refine pl_call (a := [.ref b]) (rest := [.int (nI t), .int 0]) rfl rfl rfl (dk_size (f := f) (n := n) (b := b) (da := da) h_b h_da (hn)) (fun v1 M2 q3 => ?_)
  obtain ⟨rfl, rfl⟩ := q3
  show pl _ _ _ (9, [(0, .ref r), (1, .int (nI t))], [.int (nI n), .int (nI t), .int 0], M) _
  refine ps_st (S' := (10, [(0, .ref r), (1, .int (nI t))], [.ref r, .int (nI n), .int (nI t), .int 0], M)) rfl rfl rfl ?_
  refine ps_get (S' := (13, [(0, .ref r), (1, .int (nI t))], [.int (nI p), .int (nI n), .int (nI t), .int 0], M)) rfl h_r rfl rfl ?_
  refine ps_st (S' := (14, [(0, .ref r), (1, .int (nI t))], [.int ((nI n) - (nI p)), .int (nI t), .int 0], M)) rfl rfl rfl ?_
  rw [nI_sub1 (p := n) (k := p) (x := (nI p)) rfl (by omega) (by omega)]
  show pl _ _ _ (_, [(0, .ref r), (1, .int (nI t))], [.int (nI (n - p)), .int (nI t), .int 0], M) _
  refine ps_st (S' := (16, [(0, .ref r), (1, .int (nI t))], [.int 8, .int (nI (n - p)), .int (nI t), .int 0], M)) rfl rfl rfl ?_
  refine ps_st (S' := (17, [(0, .ref r), (1, .int (nI t))], [.int ((nI (n - p)) / 8), .int (nI t), .int 0], M)) rfl rfl rfl ?_
  rw [ndiv_nI (k := 8) rfl (by decide) (by omega)]
  show pl _ _ _ (_, [(0, .ref r), (1, .int (nI t))], [.int (nI ((n - p) / 8)), .int (nI t), .int 0], M) _
  refine ps_st (S' := (20, [(0, .ref r), (1, .int (nI t))], [.int (if (nI ((n - p) / 8)) < (nI t) then (nI ((n - p) / 8)) else (nI t)), .int 0], M)) rfl rfl rfl ?_
  rw [nmin_nI (by omega) (by omega)]
  show pl _ _ _ (_, [(0, .ref r), (1, .int (nI t))], [.int (nI (min t ((n - p) / 8))), .int 0], M) _
  refine ps_st (S' := (23, [(0, .ref r), (1, .int (nI t))], [.int (if 0 < (nI (min t ((n - p) / 8))) then (nI (min t ((n - p) / 8))) else 0)], M)) rfl rfl rfl ?_
  rw [nmax0 (by omega)]
  show pl _ _ _ (_, [(0, .ref r), (1, .int (nI t))], [.int (nI (min t ((n - p) / 8)))], M) _
  exact ps_reti rfl (⟨rfl, rfl⟩)
set_option maxHeartbeats 1000000 in
theorem dk_member0 {g : xe_G} {M : mi_H} {f : Nat → Int32} {n b da o6 p : Nat} (h_o6 : M.1 o6 = some (ob 6 [.int 0, .int 0, .int 0, .int 0, .int 0, .int 0, .int 0, .int 0, .int 0, .int 0, .null])) (h_b : M.1 b = some (ob 1 [.ref da])) (h_da : M.1 da = some (ar .byte n f)) (hn : n ≤ 65540) (hin : p + 8 ≤ n) : pt (mT g) 106 [.ref o6, .ref b, .int (nI p)] M (fun v M' => (v = none ∧ M'.1 o6 = some (ob 6 [.int (nI p), .int (nI (by2 f p)), .int (nI (by2 f (p + 2))), .int (nI (by2 f (p + 4))), .int (nI (by2 f (p + 6))), .int (nI (p + 8)), .int 0, .int 0, .int 0, .int 0, .null]) ∧ fm [o6] M M')) := by
  refine pt_in (b := mb_106 g) rfl (fun kf => ?_)
  show pl (mT g) kf (mb_106 g).2 (0, [(0, .ref o6), (1, .ref b), (2, .int (nI p))], [], M) _
  have hF : fm [o6] M M := fm.rf
  refine ps_st (S' := (1, [(0, .ref o6), (1, .ref b), (2, .int (nI p))], [.ref o6], M)) rfl rfl rfl ?_
  refine ps_st (S' := (4, [(0, .ref o6), (1, .ref b), (2, .int (nI p))], [], M)) rfl rfl rfl ?_
  refine ps_st (S' := (5, [(0, .ref o6), (1, .ref b), (2, .int (nI p))], [.ref o6], M)) rfl rfl rfl ?_
  refine ps_st (S' := (6, [(0, .ref o6), (1, .ref b), (2, .int (nI p))], [.int (nI p), .ref o6], M)) rfl rfl rfl ?_
  refine ps_put (l' := [.int (nI p), .int 0, .int 0, .int 0, .int 0, .int 0, .int 0, .int 0, .int 0, .int 0, .null]) rfl h_o6 rfl rfl (fun M1 h2 f3 z4 => ?_)
  have h5 := (f3 b (ob_ne h_b h_o6 (by decide))).trans h_b
  have h6 := (f3 da (Ne.symm (ob_ar h_o6 h_da))).trans h_da
  have hF7 := hF.up (by simp) f3 z4
  show pl _ _ _ (9, [(0, .ref o6), (1, .ref b), (2, .int (nI p))], [], M1) _
  refine ps_st (S' := (10, [(0, .ref o6), (1, .ref b), (2, .int (nI p))], [.ref o6], M1)) rfl rfl rfl ?_
  refine ps_st (S' := (11, [(0, .ref o6), (1, .ref b), (2, .int (nI p))], [.ref b, .ref o6], M1)) rfl rfl rfl ?_
  refine ps_st (S' := (12, [(0, .ref o6), (1, .ref b), (2, .int (nI p))], [.int (nI p), .ref b, .ref o6], M1)) rfl rfl rfl ?_
  refine pl_call (a := [.ref b, .int (nI p)]) (rest := [.ref o6]) rfl rfl rfl (dk_u2 (f := f) (n := n) (b := b) (da := da) (p := p) h5 h6 (hn) (by omega)) (fun v8 M9 q10 => ?_)
  obtain ⟨rfl, rfl⟩ := q10
  show pl _ _ _ (15, [(0, .ref o6), (1, .ref b), (2, .int (nI p))], [.int (nI (by2 f p)), .ref o6], M1) _
  have hu_12 := by2_lt f p
  refine ps_put (l' := [.int (nI p), .int (nI (by2 f p)), .int 0, .int 0, .int 0, .int 0, .int 0, .int 0, .int 0, .int 0, .null]) rfl h2 rfl rfl (fun M11 h12 f13 z14 => ?_)
  have h15 := (f13 b (ob_ne h5 h2 (by decide))).trans h5
  have h16 := (f13 da (Ne.symm (ob_ar h2 h6))).trans h6
  have hF17 := hF7.up (by simp) f13 z14
  show pl _ _ _ (18, [(0, .ref o6), (1, .ref b), (2, .int (nI p))], [], M11) _
  refine ps_st (S' := (19, [(0, .ref o6), (1, .ref b), (2, .int (nI p))], [.ref o6], M11)) rfl rfl rfl ?_
  refine ps_st (S' := (20, [(0, .ref o6), (1, .ref b), (2, .int (nI p))], [.ref b, .ref o6], M11)) rfl rfl rfl ?_
  refine ps_st (S' := (21, [(0, .ref o6), (1, .ref b), (2, .int (nI p))], [.int (nI p), .ref b, .ref o6], M11)) rfl rfl rfl ?_
  refine ps_st (S' := (22, [(0, .ref o6), (1, .ref b), (2, .int (nI p))], [.int 2, .int (nI p), .ref b, .ref o6], M11)) rfl rfl rfl ?_
  refine ps_st (S' := (23, [(0, .ref o6), (1, .ref b), (2, .int (nI p))], [.int ((nI p) + 2), .ref b, .ref o6], M11)) rfl rfl rfl ?_
  rw [nI_add1 (p := p) (k := 2) (x := 2) rfl (by omega)]
  show pl _ _ _ (_, [(0, .ref o6), (1, .ref b), (2, .int (nI p))], [.int (nI (p + 2)), .ref b, .ref o6], M11) _
  refine pl_call (a := [.ref b, .int (nI (p + 2))]) (rest := [.ref o6]) rfl rfl rfl (dk_u2 (f := f) (n := n) (b := b) (da := da) (p := (p + 2)) h15 h16 (hn) (by omega)) (fun v18 M19 q20 => ?_)
  obtain ⟨rfl, rfl⟩ := q20
  show pl _ _ _ (26, [(0, .ref o6), (1, .ref b), (2, .int (nI p))], [.int (nI (by2 f (p + 2))), .ref o6], M11) _
  have hu_23 := by2_lt f (p + 2)
  refine ps_put (l' := [.int (nI p), .int (nI (by2 f p)), .int (nI (by2 f (p + 2))), .int 0, .int 0, .int 0, .int 0, .int 0, .int 0, .int 0, .null]) rfl h12 rfl rfl (fun M21 h22 f23 z24 => ?_)
  have h25 := (f23 b (ob_ne h15 h12 (by decide))).trans h15
  have h26 := (f23 da (Ne.symm (ob_ar h12 h16))).trans h16
  have hF27 := hF17.up (by simp) f23 z24
  show pl _ _ _ (29, [(0, .ref o6), (1, .ref b), (2, .int (nI p))], [], M21) _
  refine ps_st (S' := (30, [(0, .ref o6), (1, .ref b), (2, .int (nI p))], [.ref o6], M21)) rfl rfl rfl ?_
  refine ps_st (S' := (31, [(0, .ref o6), (1, .ref b), (2, .int (nI p))], [.ref b, .ref o6], M21)) rfl rfl rfl ?_
  refine ps_st (S' := (32, [(0, .ref o6), (1, .ref b), (2, .int (nI p))], [.int (nI p), .ref b, .ref o6], M21)) rfl rfl rfl ?_
  refine ps_st (S' := (33, [(0, .ref o6), (1, .ref b), (2, .int (nI p))], [.int 4, .int (nI p), .ref b, .ref o6], M21)) rfl rfl rfl ?_
  refine ps_st (S' := (34, [(0, .ref o6), (1, .ref b), (2, .int (nI p))], [.int ((nI p) + 4), .ref b, .ref o6], M21)) rfl rfl rfl ?_
  rw [nI_add1 (p := p) (k := 4) (x := 4) rfl (by omega)]
  show pl _ _ _ (_, [(0, .ref o6), (1, .ref b), (2, .int (nI p))], [.int (nI (p + 4)), .ref b, .ref o6], M21) _
  refine pl_call (a := [.ref b, .int (nI (p + 4))]) (rest := [.ref o6]) rfl rfl rfl (dk_u2 (f := f) (n := n) (b := b) (da := da) (p := (p + 4)) h25 h26 (hn) (by omega)) (fun v28 M29 q30 => ?_)
  obtain ⟨rfl, rfl⟩ := q30
  show pl _ _ _ (37, [(0, .ref o6), (1, .ref b), (2, .int (nI p))], [.int (nI (by2 f (p + 4))), .ref o6], M21) _
  have hu_34 := by2_lt f (p + 4)
  refine ps_put (l' := [.int (nI p), .int (nI (by2 f p)), .int (nI (by2 f (p + 2))), .int (nI (by2 f (p + 4))), .int 0, .int 0, .int 0, .int 0, .int 0, .int 0, .null]) rfl h22 rfl rfl (fun M31 h32 f33 z34 => ?_)
  have h35 := (f33 b (ob_ne h25 h22 (by decide))).trans h25
  have h36 := (f33 da (Ne.symm (ob_ar h22 h26))).trans h26
  have hF37 := hF27.up (by simp) f33 z34
  show pl _ _ _ (40, [(0, .ref o6), (1, .ref b), (2, .int (nI p))], [], M31) _
  refine ps_st (S' := (41, [(0, .ref o6), (1, .ref b), (2, .int (nI p))], [.ref o6], M31)) rfl rfl rfl ?_
  refine ps_st (S' := (42, [(0, .ref o6), (1, .ref b), (2, .int (nI p))], [.ref b, .ref o6], M31)) rfl rfl rfl ?_
  refine ps_st (S' := (43, [(0, .ref o6), (1, .ref b), (2, .int (nI p))], [.int (nI p), .ref b, .ref o6], M31)) rfl rfl rfl ?_
  refine ps_st (S' := (45, [(0, .ref o6), (1, .ref b), (2, .int (nI p))], [.int 6, .int (nI p), .ref b, .ref o6], M31)) rfl rfl rfl ?_
  refine ps_st (S' := (46, [(0, .ref o6), (1, .ref b), (2, .int (nI p))], [.int ((nI p) + 6), .ref b, .ref o6], M31)) rfl rfl rfl ?_
  rw [nI_add1 (p := p) (k := 6) (x := 6) rfl (by omega)]
  show pl _ _ _ (_, [(0, .ref o6), (1, .ref b), (2, .int (nI p))], [.int (nI (p + 6)), .ref b, .ref o6], M31) _
  refine pl_call (a := [.ref b, .int (nI (p + 6))]) (rest := [.ref o6]) rfl rfl rfl (dk_u2 (f := f) (n := n) (b := b) (da := da) (p := (p + 6)) h35 h36 (hn) (by omega)) (fun v38 M39 q40 => ?_)
  obtain ⟨rfl, rfl⟩ := q40
  show pl _ _ _ (49, [(0, .ref o6), (1, .ref b), (2, .int (nI p))], [.int (nI (by2 f (p + 6))), .ref o6], M31) _
  have hu_46 := by2_lt f (p + 6)
  refine ps_put (l' := [.int (nI p), .int (nI (by2 f p)), .int (nI (by2 f (p + 2))), .int (nI (by2 f (p + 4))), .int (nI (by2 f (p + 6))), .int 0, .int 0, .int 0, .int 0, .int 0, .null]) rfl h32 rfl rfl (fun M41 h42 f43 z44 => ?_)
  have h45 := (f43 b (ob_ne h35 h32 (by decide))).trans h35
  have h46 := (f43 da (Ne.symm (ob_ar h32 h36))).trans h36
  have hF47 := hF37.up (by simp) f43 z44
  show pl _ _ _ (52, [(0, .ref o6), (1, .ref b), (2, .int (nI p))], [], M41) _
  refine ps_st (S' := (53, [(0, .ref o6), (1, .ref b), (2, .int (nI p))], [.ref o6], M41)) rfl rfl rfl ?_
  refine ps_st (S' := (54, [(0, .ref o6), (1, .ref b), (2, .int (nI p))], [.int (nI p), .ref o6], M41)) rfl rfl rfl ?_
  refine ps_st (S' := (56, [(0, .ref o6), (1, .ref b), (2, .int (nI p))], [.int 8, .int (nI p), .ref o6], M41)) rfl rfl rfl ?_
  refine ps_st (S' := (57, [(0, .ref o6), (1, .ref b), (2, .int (nI p))], [.int ((nI p) + 8), .ref o6], M41)) rfl rfl rfl ?_
  rw [nI_add1 (p := p) (k := 8) (x := 8) rfl (by omega)]
  show pl _ _ _ (_, [(0, .ref o6), (1, .ref b), (2, .int (nI p))], [.int (nI (p + 8)), .ref o6], M41) _
  refine ps_put (l' := [.int (nI p), .int (nI (by2 f p)), .int (nI (by2 f (p + 2))), .int (nI (by2 f (p + 4))), .int (nI (by2 f (p + 6))), .int (nI (p + 8)), .int 0, .int 0, .int 0, .int 0, .null]) rfl h42 rfl rfl (fun M48 h49 f50 z51 => ?_)
  have h52 := (f50 b (ob_ne h45 h42 (by decide))).trans h45
  have h53 := (f50 da (Ne.symm (ob_ar h42 h46))).trans h46
  have hF54 := hF47.up (by simp) f50 z51
  show pl _ _ _ (60, [(0, .ref o6), (1, .ref b), (2, .int (nI p))], [], M48) _
  exact ps_ret rfl rfl (⟨rfl, h49, hF54⟩)
set_option maxHeartbeats 1000000 in
theorem dk_takesMembers {g : xe_G} {M : mi_H} {r c b vd da n p : Nat} {f : Nat → Int32} {it ru wa : Int32} {mm t cap : Nat} (h_r : M.1 r = some (ob 9 [.ref c, .ref b, .ref vd, .int (nI p), .int it])) (h_b : M.1 b = some (ob 1 [.ref da])) (h_da : M.1 da = some (ar .byte n f)) (h_vd : M.1 vd = some (ob 10 [.int ru, .int wa])) (h_mm : M.1 mm = some (ro "ClassGate$Member" cap (fun _ => .null))) (hn : n ≤ 65540) (hp : p ≤ n) (ht : t < 65536) (hcap : cap = min t ((n - p) / 8)) (l_r : r < M.2.1) (l_b : b < M.2.1) (l_da : da < M.2.1) (l_vd : vd < M.2.1) (l_mm : mm < M.2.1) : pt (mT g) 167 [.ref r, .ref mm, .int (nI t)] M (fun v M' => (∃ (p' : Nat) (it' : Int32), (s_mems f n t p = .inr p') ∧ (MV f (mbs f n t p) mm (fun i => M.2.1 + i) 0 M') ∧ v = some (.int 1) ∧ M'.1 r = some (ob 9 [.ref c, .ref b, .ref vd, .int (nI p'), .int it']) ∧ M'.1 vd = some (ob 10 [.int ru, .int wa]) ∧ gm [r, vd, mm] M M' ∧ M.2.1 ≤ M'.2.1) ∨ (∃ (e : Nat × Nat), (s_mems f n t p = .inl e) ∧ v = some (.int 0) ∧ M'.1 vd = some (ob 10 [.int (nI e.1), .int (nI e.2)]) ∧ gm [r, vd, mm] M M' ∧ M.2.1 ≤ M'.2.1)) := by
  refine pt_in (b := mb_167 g) rfl (fun kf => ?_)
  show pl (mT g) kf (mb_167 g).2 (0, [(0, .ref r), (1, .ref mm), (2, .int (nI t))], [], M) _
  have hF : gm [r, vd, mm] M M := gm.rf
  obtain ⟨z0, tp0⟩ : ∃ z0, M.2.1 = z0 := ⟨_, rfl⟩
  have hW : MR f [] z0 0 M := fun j hj => by omega
  have LL : ∀ (kf : Nat), (∀ (i p1 : Nat) (B : List Nat) (it1 : Int32) (R : Nat → Value) (M1 : mi_H), (M1.1 r = some (ob 9 [.ref c, .ref b, .ref vd, .int (nI p1), .int it1])) → (M1.1 b = some (ob 1 [.ref da])) → (M1.1 da = some (ar .byte n f)) → (M1.1 vd = some (ob 10 [.int ru, .int wa])) → (M1.1 mm = some (ro "ClassGate$Member" cap R)) → (MR f B z0 i M1) → (gm [r, vd, mm] M M1) → (M1.2.1 = z0 + i) → (i ≤ t) → (p + 8 * i ≤ p1 ∧ p1 ≤ n) → (B.length = i) → (∀ j, j < i → R j = .ref (z0 + j)) → (s_mems f n (t - i) p1 = s_mems f n t p) → (B ++ mbs f n (t - i) p1 = mbs f n t p) →  pl (mT g) kf (mb_167 g).2 (2, [(0, .ref r), (1, .ref mm), (2, .int (nI t)), (3, .int (nI i))], [], M1) (fun v M' => (∃ (p' : Nat) (it' : Int32), (s_mems f n t p = .inr p') ∧ (MV f (mbs f n t p) mm (fun i => M.2.1 + i) 0 M') ∧ v = some (.int 1) ∧ M'.1 r = some (ob 9 [.ref c, .ref b, .ref vd, .int (nI p'), .int it']) ∧ M'.1 vd = some (ob 10 [.int ru, .int wa]) ∧ gm [r, vd, mm] M M' ∧ M.2.1 ≤ M'.2.1) ∨ (∃ (e : Nat × Nat), (s_mems f n t p = .inl e) ∧ v = some (.int 0) ∧ M'.1 vd = some (ob 10 [.int (nI e.1), .int (nI e.2)]) ∧ gm [r, vd, mm] M M' ∧ M.2.1 ≤ M'.2.1))) := by
    intro kf
    induction kf with
    | zero => exact (by intros; exact pl_0)
    | succ kf ih =>
      intro i p1 B it1 R M1 hl_r hl_b hl_da hl_vd hl_mm hW1 hF1 tp1 hi hp1 hB hR hs hb
      refine ps_st1 (S' := (3, [(0, .ref r), (1, .ref mm), (2, .int (nI t)), (3, .int (nI i))], [.int (nI i)], M1)) rfl rfl rfl ?_
      refine ps_st (S' := (4, [(0, .ref r), (1, .ref mm), (2, .int (nI t)), (3, .int (nI i))], [.int (nI t), .int (nI i)], M1)) rfl rfl rfl ?_
      refine ps_if2 (S1 := (74, [(0, .ref r), (1, .ref mm), (2, .int (nI t)), (3, .int (nI i))], [], M1)) (S2 := (7, [(0, .ref r), (1, .ref mm), (2, .int (nI t)), (3, .int (nI i))], [], M1)) rfl rfl rfl (fun c_4 => ?_) (fun c_4 => ?_)
      · have c_4 : (nI t) ≤ (nI i) := of_decide_eq_true c_4
        have n_4 : t ≤ i := (le_nI (p := t) (n := i) (by omega) (by omega)).mp c_4
        refine ps_st (S' := (75, [(0, .ref r), (1, .ref mm), (2, .int (nI t)), (3, .int (nI i))], [.int 1], M1)) rfl rfl rfl ?_
        exact ps_ret rfl rfl (Or.inl ⟨p1, _, by rw [← hs, show t - i = 0 by omega]; rfl, by
            have e9 : B = mbs f n t p := by rw [← hb, show t - i = 0 by omega, mbs, List.append_nil]
            have e8 : cap = i := by omega
            have hm8 := hl_mm
            rw [e8] at hm8
            rw [← e9, tp0]
            exact hW1.mv hB hm8 hR (by omega), rfl, hl_r, hl_vd, hF1, hF1.2⟩)
      · have c_4 : ¬ ((nI t) ≤ (nI i)) := of_decide_eq_false c_4
        have n_4 : ¬ (t ≤ i) := fun h9 => c_4 ((le_nI (p := t) (n := i) (by omega) (by omega)).mpr h9)
        refine ps_st (S' := (8, [(0, .ref r), (1, .ref mm), (2, .int (nI t)), (3, .int (nI i))], [.ref r], M1)) rfl rfl rfl ?_
        refine ps_get (S' := (11, [(0, .ref r), (1, .ref mm), (2, .int (nI t)), (3, .int (nI i))], [.int (nI p1)], M1)) rfl hl_r rfl rfl ?_
        refine ps_st (S' := (13, [(4, .int (nI p1)), (0, .ref r), (1, .ref mm), (2, .int (nI t)), (3, .int (nI i))], [], M1)) rfl rfl rfl ?_
        refine ps_st (S' := (14, [(4, .int (nI p1)), (0, .ref r), (1, .ref mm), (2, .int (nI t)), (3, .int (nI i))], [.ref r], M1)) rfl rfl rfl ?_
        refine ps_st (S' := (15, [(4, .int (nI p1)), (0, .ref r), (1, .ref mm), (2, .int (nI t)), (3, .int (nI i))], [.int 2, .ref r], M1)) rfl rfl rfl ?_
        refine pl_call (a := [.ref r, .int 2]) (rest := []) rfl rfl rfl (dk_takes2 (r := r) (c := c) (b := b) (vd := vd) (da := da) (n := n) (p := p1) (f := f) (it := it1) (ru := ru) (wa := wa) hl_r hl_b hl_da hl_vd (hn) (by omega)) (fun v1 M2 q3 => ?_)
        rcases q3 with q3 | q3
        · skip
          obtain ⟨q15_s, rfl, h4, h5, f6⟩ := q3
          have h8 := (f6.1 b (nin2 (ob_ne hl_b hl_r (by decide)) (ob_ne hl_b hl_vd (by decide)))).trans hl_b
          have h9 := (f6.1 da (nin2 (Ne.symm (ob_ar hl_r hl_da)) (Ne.symm (ob_ar hl_vd hl_da)))).trans hl_da
          have h10 := (f6.1 mm (nin2 (Ne.symm (ob_ro hl_r hl_mm)) (Ne.symm (ob_ro hl_vd hl_mm)))).trans hl_mm
          have hF11 := hF1.trf f6 (by intro z hz; simp only [List.mem_cons, List.not_mem_nil, or_false] at hz ⊢; try omega)
          have tp12 : M2.2.1 = z0 + i := by rw [f6.2]; exact tp1
          have hV13 := hW1.keep f6.gm (nMc (by omega) (nMc (by omega) (nMnil)))
          show pl _ _ _ (18, [(4, .int (nI p1)), (0, .ref r), (1, .ref mm), (2, .int (nI t)), (3, .int (nI i))], [.int 1], M2) _
          refine ps_if (S1 := (44, [], [], M2)) (S2 := (21, [(4, .int (nI p1)), (0, .ref r), (1, .ref mm), (2, .int (nI t)), (3, .int (nI i))], [], M2)) rfl rfl rfl (fun c_18 => ?_) (fun c_18 => ?_)
          · exact absurd (of_decide_eq_true c_18) (by decide)
          refine ps_st (S' := (22, [(4, .int (nI p1)), (0, .ref r), (1, .ref mm), (2, .int (nI t)), (3, .int (nI i))], [.ref r], M2)) rfl rfl rfl ?_
          refine ps_st (S' := (23, [(4, .int (nI p1)), (0, .ref r), (1, .ref mm), (2, .int (nI t)), (3, .int (nI i))], [.int 2, .ref r], M2)) rfl rfl rfl ?_
          refine pl_call (a := [.ref r, .int 2]) (rest := []) rfl rfl rfl (dk_takes2 (r := r) (c := c) (b := b) (vd := vd) (da := da) (n := n) (p := (p1 + 2)) (f := f) (it := (nI (by2 f p1))) (ru := ru) (wa := wa) h4 h8 h9 h5 (hn) (by omega)) (fun v14 M15 q16 => ?_)
          rcases q16 with q16 | q16
          · skip
            obtain ⟨q23_s, rfl, h17, h18, f19⟩ := q16
            have h21 := (f19.1 b (nin2 (ob_ne h8 h4 (by decide)) (ob_ne h8 h5 (by decide)))).trans h8
            have h22 := (f19.1 da (nin2 (Ne.symm (ob_ar h4 h9)) (Ne.symm (ob_ar h5 h9)))).trans h9
            have h23 := (f19.1 mm (nin2 (Ne.symm (ob_ro h4 h10)) (Ne.symm (ob_ro h5 h10)))).trans h10
            have hF24 := hF11.trf f19 (by intro z hz; simp only [List.mem_cons, List.not_mem_nil, or_false] at hz ⊢; try omega)
            have tp25 : M15.2.1 = z0 + i := by rw [f19.2]; exact tp12
            have hV26 := hV13.keep f19.gm (nMc (by omega) (nMc (by omega) (nMnil)))
            show pl _ _ _ (26, [(4, .int (nI p1)), (0, .ref r), (1, .ref mm), (2, .int (nI t)), (3, .int (nI i))], [.int 1], M15) _
            refine ps_if (S1 := (44, [], [], M15)) (S2 := (29, [(4, .int (nI p1)), (0, .ref r), (1, .ref mm), (2, .int (nI t)), (3, .int (nI i))], [], M15)) rfl rfl rfl (fun c_26 => ?_) (fun c_26 => ?_)
            · exact absurd (of_decide_eq_true c_26) (by decide)
            refine ps_st (S' := (30, [(4, .int (nI p1)), (0, .ref r), (1, .ref mm), (2, .int (nI t)), (3, .int (nI i))], [.ref r], M15)) rfl rfl rfl ?_
            refine ps_st (S' := (31, [(4, .int (nI p1)), (0, .ref r), (1, .ref mm), (2, .int (nI t)), (3, .int (nI i))], [.int 2, .ref r], M15)) rfl rfl rfl ?_
            refine pl_call (a := [.ref r, .int 2]) (rest := []) rfl rfl rfl (dk_takes2 (r := r) (c := c) (b := b) (vd := vd) (da := da) (n := n) (p := (p1 + 4)) (f := f) (it := (nI (by2 f (p1 + 2)))) (ru := ru) (wa := wa) h17 h21 h22 h18 (hn) (by omega)) (fun v27 M28 q29 => ?_)
            rcases q29 with q29 | q29
            · skip
              obtain ⟨q31_s, rfl, h30, h31, f32⟩ := q29
              have h34 := (f32.1 b (nin2 (ob_ne h21 h17 (by decide)) (ob_ne h21 h18 (by decide)))).trans h21
              have h35 := (f32.1 da (nin2 (Ne.symm (ob_ar h17 h22)) (Ne.symm (ob_ar h18 h22)))).trans h22
              have h36 := (f32.1 mm (nin2 (Ne.symm (ob_ro h17 h23)) (Ne.symm (ob_ro h18 h23)))).trans h23
              have hF37 := hF24.trf f32 (by intro z hz; simp only [List.mem_cons, List.not_mem_nil, or_false] at hz ⊢; try omega)
              have tp38 : M28.2.1 = z0 + i := by rw [f32.2]; exact tp25
              have hV39 := hV26.keep f32.gm (nMc (by omega) (nMc (by omega) (nMnil)))
              show pl _ _ _ (34, [(4, .int (nI p1)), (0, .ref r), (1, .ref mm), (2, .int (nI t)), (3, .int (nI i))], [.int 1], M28) _
              refine ps_if (S1 := (44, [], [], M28)) (S2 := (37, [(4, .int (nI p1)), (0, .ref r), (1, .ref mm), (2, .int (nI t)), (3, .int (nI i))], [], M28)) rfl rfl rfl (fun c_34 => ?_) (fun c_34 => ?_)
              · exact absurd (of_decide_eq_true c_34) (by decide)
              refine ps_st (S' := (38, [(4, .int (nI p1)), (0, .ref r), (1, .ref mm), (2, .int (nI t)), (3, .int (nI i))], [.ref r], M28)) rfl rfl rfl ?_
              refine pl_call (a := [.ref r]) (rest := []) rfl rfl rfl (dk_takesAttributes (r := r) (c := c) (b := b) (vd := vd) (da := da) (n := n) (p := (p1 + 6)) (f := f) (it := (nI (by2 f (p1 + 4)))) (ru := ru) (wa := wa) h30 h34 h35 h31 (hn) (by omega)) (fun v40 M41 q42 => ?_)
              rcases q42 with q42 | q42
              · skip
                obtain ⟨p'43, it'44, q38_s, rfl, h45, h46, f47⟩ := q42
                have h49 := (f47.1 b (nin2 (ob_ne h34 h30 (by decide)) (ob_ne h34 h31 (by decide)))).trans h34
                have h50 := (f47.1 da (nin2 (Ne.symm (ob_ar h30 h35)) (Ne.symm (ob_ar h31 h35)))).trans h35
                have h51 := (f47.1 mm (nin2 (Ne.symm (ob_ro h30 h36)) (Ne.symm (ob_ro h31 h36)))).trans h36
                have hF52 := hF37.trf f47 (by intro z hz; simp only [List.mem_cons, List.not_mem_nil, or_false] at hz ⊢; try omega)
                have tp53 : M41.2.1 = z0 + i := by rw [f47.2]; exact tp38
                have hV54 := hV39.keep f47.gm (nMc (by omega) (nMc (by omega) (nMnil)))
                show pl _ _ _ (41, [(4, .int (nI p1)), (0, .ref r), (1, .ref mm), (2, .int (nI t)), (3, .int (nI i))], [.int 1], M41) _
                have hle_38 := s_attributes_le2 q38_s
                refine ps_if (S1 := (46, [(4, .int (nI p1)), (0, .ref r), (1, .ref mm), (2, .int (nI t)), (3, .int (nI i))], [], M41)) (S2 := (44, [], [], M41)) rfl rfl rfl (fun c_41 => ?_) (fun c_41 => ?_)
                rotate_left
                · exact absurd (by decide) (of_decide_eq_false c_41)
                refine ps_st (S' := (47, [(4, .int (nI p1)), (0, .ref r), (1, .ref mm), (2, .int (nI t)), (3, .int (nI i))], [.int (nI i)], M41)) rfl rfl rfl ?_
                refine ps_st (S' := (48, [(4, .int (nI p1)), (0, .ref r), (1, .ref mm), (2, .int (nI t)), (3, .int (nI i))], [.ref mm, .int (nI i)], M41)) rfl rfl rfl ?_
                refine ps_aalen (S' := (49, [(4, .int (nI p1)), (0, .ref r), (1, .ref mm), (2, .int (nI t)), (3, .int (nI i))], [.int (nI cap), .int (nI i)], M41)) rfl h51 rfl ?_
                refine ps_if2 (S1 := (68, [(0, .ref r), (1, .ref mm), (2, .int (nI t)), (3, .int (nI i))], [], M41)) (S2 := (52, [(4, .int (nI p1)), (0, .ref r), (1, .ref mm), (2, .int (nI t)), (3, .int (nI i))], [], M41)) rfl rfl rfl (fun c_49 => ?_) (fun c_49 => ?_)
                · exact absurd (of_decide_eq_true c_49) (fun h9 => absurd ((le_nI (p := cap) (n := i) (by omega) (by omega)).mp h9) (by omega))
                refine ps_st (S' := (53, [(4, .int (nI p1)), (0, .ref r), (1, .ref mm), (2, .int (nI t)), (3, .int (nI i))], [.ref mm], M41)) rfl rfl rfl ?_
                refine ps_st (S' := (54, [(4, .int (nI p1)), (0, .ref r), (1, .ref mm), (2, .int (nI t)), (3, .int (nI i))], [.int (nI i), .ref mm], M41)) rfl rfl rfl ?_
                refine ps_newz rfl tp53 (fun M55 h56 f57 tp58 => ?_)
                have h59 := (f57 r (show r ≠ (z0 + i) by omega)).trans h45
                have h60 := (f57 b (show b ≠ (z0 + i) by omega)).trans h49
                have h61 := (f57 da (show da ≠ (z0 + i) by omega)).trans h50
                have h62 := (f57 vd (show vd ≠ (z0 + i) by omega)).trans h46
                have h63 := (f57 mm (show mm ≠ (z0 + i) by omega)).trans h51
                have hV64 := hV54.new tp53 f57 tp58
                have hF65 := hF52.up (Or.inr (by omega)) f57 (by omega)
                show pl _ _ _ (57, [(4, .int (nI p1)), (0, .ref r), (1, .ref mm), (2, .int (nI t)), (3, .int (nI i))], [.ref (z0 + i), .int (nI i), .ref mm], M55) _
                refine ps_st (S' := (58, [(4, .int (nI p1)), (0, .ref r), (1, .ref mm), (2, .int (nI t)), (3, .int (nI i))], [.ref (z0 + i), .ref (z0 + i), .int (nI i), .ref mm], M55)) rfl rfl rfl ?_
                refine ps_st (S' := (59, [(4, .int (nI p1)), (0, .ref r), (1, .ref mm), (2, .int (nI t)), (3, .int (nI i))], [.ref r, .ref (z0 + i), .ref (z0 + i), .int (nI i), .ref mm], M55)) rfl rfl rfl ?_
                refine ps_get (S' := (62, [(4, .int (nI p1)), (0, .ref r), (1, .ref mm), (2, .int (nI t)), (3, .int (nI i))], [.ref b, .ref (z0 + i), .ref (z0 + i), .int (nI i), .ref mm], M55)) rfl h59 rfl rfl ?_
                refine ps_st (S' := (64, [(4, .int (nI p1)), (0, .ref r), (1, .ref mm), (2, .int (nI t)), (3, .int (nI i))], [.int (nI p1), .ref b, .ref (z0 + i), .ref (z0 + i), .int (nI i), .ref mm], M55)) rfl rfl rfl ?_
                refine pl_call (a := [.ref (z0 + i), .ref b, .int (nI p1)]) (rest := [.ref (z0 + i), .int (nI i), .ref mm]) rfl rfl rfl (dk_member0 (f := f) (n := n) (b := b) (da := da) (o6 := (z0 + i)) (p := p1) h56 h60 h61 (hn) (by omega)) (fun v66 M67 q68 => ?_)
                obtain ⟨rfl, h69, f70⟩ := q68
                have h72 := (f70.1 r (nin1 (show r ≠ (z0 + i) by omega))).trans h59
                have h73 := (f70.1 b (nin1 (show b ≠ (z0 + i) by omega))).trans h60
                have h74 := (f70.1 da (nin1 (show da ≠ (z0 + i) by omega))).trans h61
                have h75 := (f70.1 vd (nin1 (show vd ≠ (z0 + i) by omega))).trans h62
                have h76 := (f70.1 mm (nin1 (show mm ≠ (z0 + i) by omega))).trans h63
                have hF77 := hF65.trf f70 (by intro z hz; simp only [List.mem_cons, List.not_mem_nil, or_false] at hz ⊢; try omega)
                have tp78 : M67.2.1 = z0 + i + 1 := by rw [f70.2]; exact tp58
                have hV79 := hV64.keep f70.gm (nMc (by omega) (nMnil))
                show pl _ _ _ (67, [(4, .int (nI p1)), (0, .ref r), (1, .ref mm), (2, .int (nI t)), (3, .int (nI i))], [.ref (z0 + i), .int (nI i), .ref mm], M67) _
                refine ps_aast rfl h76 (by omega) (fun M80 i1_67 h81 f82 z83 => ?_)
                have h84 := (f82 r (ob_ro h72 h76)).trans h72
                have h85 := (f82 b (ob_ro h73 h76)).trans h73
                have h86 := (f82 da (ar_ro h74 h76 (by decide))).trans h74
                have h87 := (f82 vd (ob_ro h75 h76)).trans h75
                have h88 := (f82 (z0 + i) (show (z0 + i) ≠ mm by omega)).trans h69
                have hV89 := hV79.put (by omega) f82 z83
                have hF90 := hF77.up (Or.inl (by simp)) f82 (by rw [z83]; exact Nat.le_refl _)
                have tp91 : M80.2.1 = z0 + i + 1 := by rw [z83]; exact tp78
                show pl _ _ _ (68, [(0, .ref r), (1, .ref mm), (2, .int (nI t)), (3, .int (nI i))], [], M80) _
                refine ps_st (S' := (71, [(3, .int ((nI i) + 1)), (0, .ref r), (1, .ref mm), (2, .int (nI t))], [], M80)) rfl rfl rfl ?_
                rw [nI_add1 (p := i) (k := 1) (x := 1) rfl (by omega)]
                show pl _ _ _ (_, [(3, .int (nI (i + 1))), (0, .ref r), (1, .ref mm), (2, .int (nI t))], [], M80) _
                refine ps_st (S' := (2, [(0, .ref r), (1, .ref mm), (2, .int (nI t)), (3, .int (nI (i + 1)))], [], M80)) rfl rfl rfl ?_
                have hW9 := hV89.snoc hB h88 (by omega)
                exact ih (i + 1) (p'43) (B ++ [p1]) (it'44) ((upv R i (.ref (z0 + i)))) M80 h84 h85 h86 h87 h81 hW9 hF90 (tp91) (by omega) (by omega) (by simp [hB]) (upv_to hR) (by
                    rw [← hs, s_mems_st (i := i) (p := p1) (by omega)]
                    rw [if_neg (by omega), if_neg (by omega), if_neg (by omega), q38_s]
                    first | done | rfl) (by
                    rw [← hb, mbs_st (i := i) (p := p1) (by omega), q38_s]
                    simp)
              · skip
                obtain ⟨e92, q38_s, rfl, h93, f94⟩ := q42
                have h96 := (f94.1 b (nin2 (ob_ne h34 h30 (by decide)) (ob_ne h34 h31 (by decide)))).trans h34
                have h97 := (f94.1 da (nin2 (Ne.symm (ob_ar h30 h35)) (Ne.symm (ob_ar h31 h35)))).trans h35
                have h98 := (f94.1 mm (nin2 (Ne.symm (ob_ro h30 h36)) (Ne.symm (ob_ro h31 h36)))).trans h36
                have hF99 := hF37.trf f94 (by intro z hz; simp only [List.mem_cons, List.not_mem_nil, or_false] at hz ⊢; try omega)
                have tp100 : M41.2.1 = z0 + i := by rw [f94.2]; exact tp38
                have hV101 := hV39.keep f94.gm (nMc (by omega) (nMc (by omega) (nMnil)))
                show pl _ _ _ (41, [(4, .int (nI p1)), (0, .ref r), (1, .ref mm), (2, .int (nI t)), (3, .int (nI i))], [.int 0], M41) _
                refine ps_if (S1 := (46, [(4, .int (nI p1)), (0, .ref r), (1, .ref mm), (2, .int (nI t)), (3, .int (nI i))], [], M41)) (S2 := (44, [], [], M41)) rfl rfl rfl (fun c_41 => ?_) (fun c_41 => ?_)
                · exact absurd (of_decide_eq_true c_41) (by decide)
                refine ps_st (S' := (45, [], [.int 0], M41)) rfl rfl rfl ?_
                exact ps_ret rfl rfl (Or.inr ⟨e92, by
                    rw [← hs, s_mems_st (i := i) (p := p1) (by omega)]
                    rw [if_neg (by omega), if_neg (by omega), if_neg (by omega), q38_s]
                    first | done | rfl, rfl, h93, hF99, hF99.2⟩)
            · skip
              obtain ⟨q31_s, rfl, h102, h103, f104⟩ := q29
              have h106 := (f104.1 b (nin2 (ob_ne h21 h17 (by decide)) (ob_ne h21 h18 (by decide)))).trans h21
              have h107 := (f104.1 da (nin2 (Ne.symm (ob_ar h17 h22)) (Ne.symm (ob_ar h18 h22)))).trans h22
              have h108 := (f104.1 mm (nin2 (Ne.symm (ob_ro h17 h23)) (Ne.symm (ob_ro h18 h23)))).trans h23
              have hF109 := hF24.trf f104 (by intro z hz; simp only [List.mem_cons, List.not_mem_nil, or_false] at hz ⊢; try omega)
              have tp110 : M28.2.1 = z0 + i := by rw [f104.2]; exact tp25
              have hV111 := hV26.keep f104.gm (nMc (by omega) (nMc (by omega) (nMnil)))
              show pl _ _ _ (34, [(4, .int (nI p1)), (0, .ref r), (1, .ref mm), (2, .int (nI t)), (3, .int (nI i))], [.int 0], M28) _
              refine ps_if (S1 := (44, [], [], M28)) (S2 := (37, [(4, .int (nI p1)), (0, .ref r), (1, .ref mm), (2, .int (nI t)), (3, .int (nI i))], [], M28)) rfl rfl rfl (fun c_34 => ?_) (fun c_34 => ?_)
              rotate_left
              · exact absurd (by decide) (of_decide_eq_false c_34)
              refine ps_st (S' := (45, [], [.int 0], M28)) rfl rfl rfl ?_
              exact ps_ret rfl rfl (Or.inr ⟨(1, p1 + 4), by
                  rw [← hs, s_mems_st (i := i) (p := p1) (by omega)]
                  rw [if_neg (by omega), if_neg (by omega), if_pos (by omega)]
                  first | done | rfl, rfl, h103, hF109, hF109.2⟩)
          · skip
            obtain ⟨q23_s, rfl, h112, h113, f114⟩ := q16
            have h116 := (f114.1 b (nin2 (ob_ne h8 h4 (by decide)) (ob_ne h8 h5 (by decide)))).trans h8
            have h117 := (f114.1 da (nin2 (Ne.symm (ob_ar h4 h9)) (Ne.symm (ob_ar h5 h9)))).trans h9
            have h118 := (f114.1 mm (nin2 (Ne.symm (ob_ro h4 h10)) (Ne.symm (ob_ro h5 h10)))).trans h10
            have hF119 := hF11.trf f114 (by intro z hz; simp only [List.mem_cons, List.not_mem_nil, or_false] at hz ⊢; try omega)
            have tp120 : M15.2.1 = z0 + i := by rw [f114.2]; exact tp12
            have hV121 := hV13.keep f114.gm (nMc (by omega) (nMc (by omega) (nMnil)))
            show pl _ _ _ (26, [(4, .int (nI p1)), (0, .ref r), (1, .ref mm), (2, .int (nI t)), (3, .int (nI i))], [.int 0], M15) _
            refine ps_if (S1 := (44, [], [], M15)) (S2 := (29, [(4, .int (nI p1)), (0, .ref r), (1, .ref mm), (2, .int (nI t)), (3, .int (nI i))], [], M15)) rfl rfl rfl (fun c_26 => ?_) (fun c_26 => ?_)
            rotate_left
            · exact absurd (by decide) (of_decide_eq_false c_26)
            refine ps_st (S' := (45, [], [.int 0], M15)) rfl rfl rfl ?_
            exact ps_ret rfl rfl (Or.inr ⟨(1, p1 + 2), by
                rw [← hs, s_mems_st (i := i) (p := p1) (by omega)]
                rw [if_neg (by omega), if_pos (by omega)]
                first | done | rfl, rfl, h113, hF119, hF119.2⟩)
        · skip
          obtain ⟨q15_s, rfl, h122, h123, f124⟩ := q3
          have h126 := (f124.1 b (nin2 (ob_ne hl_b hl_r (by decide)) (ob_ne hl_b hl_vd (by decide)))).trans hl_b
          have h127 := (f124.1 da (nin2 (Ne.symm (ob_ar hl_r hl_da)) (Ne.symm (ob_ar hl_vd hl_da)))).trans hl_da
          have h128 := (f124.1 mm (nin2 (Ne.symm (ob_ro hl_r hl_mm)) (Ne.symm (ob_ro hl_vd hl_mm)))).trans hl_mm
          have hF129 := hF1.trf f124 (by intro z hz; simp only [List.mem_cons, List.not_mem_nil, or_false] at hz ⊢; try omega)
          have tp130 : M2.2.1 = z0 + i := by rw [f124.2]; exact tp1
          have hV131 := hW1.keep f124.gm (nMc (by omega) (nMc (by omega) (nMnil)))
          show pl _ _ _ (18, [(4, .int (nI p1)), (0, .ref r), (1, .ref mm), (2, .int (nI t)), (3, .int (nI i))], [.int 0], M2) _
          refine ps_if (S1 := (44, [], [], M2)) (S2 := (21, [(4, .int (nI p1)), (0, .ref r), (1, .ref mm), (2, .int (nI t)), (3, .int (nI i))], [], M2)) rfl rfl rfl (fun c_18 => ?_) (fun c_18 => ?_)
          rotate_left
          · exact absurd (by decide) (of_decide_eq_false c_18)
          refine ps_st (S' := (45, [], [.int 0], M2)) rfl rfl rfl ?_
          exact ps_ret rfl rfl (Or.inr ⟨(1, p1), by
              rw [← hs, s_mems_st (i := i) (p := p1) (by omega)]
              rw [if_pos (by omega)]
              first | done | rfl, rfl, h123, hF129, hF129.2⟩)
  refine ps_st (S' := (1, [(0, .ref r), (1, .ref mm), (2, .int (nI t))], [.int 0], M)) rfl rfl rfl ?_
  refine ps_st (S' := (2, [(0, .ref r), (1, .ref mm), (2, .int (nI t)), (3, .int 0)], [], M)) rfl rfl rfl ?_
  exact (LL kf) (0) (p) ([]) (it) (fun _ => .null) M h_r h_b h_da h_vd h_mm hW hF (tp0) (by omega) (by omega) (rfl) (fun j hj => by omega) (rfl) (rfl)
set_option maxHeartbeats 1000000 in
theorem dk_takesFields {g : xe_G} {M : mi_H} {r c b vd da n p q fa ic mj : Nat} {f : Nat → Int32} {it ru wa : Int32} {mi x8 x9 k1 k2 k3 k4 k5 k6 k7 : Int32} {u6 u7 : Value} (h_r : M.1 r = some (ob 9 [.ref c, .ref b, .ref vd, .int (nI p), .int it])) (h_b : M.1 b = some (ob 1 [.ref da])) (h_da : M.1 da = some (ar .byte n f)) (h_vd : M.1 vd = some (ob 10 [.int ru, .int wa])) (h_c : M.1 c = some (ob 3 [.ref b, .ref q, .int mi, .int (nI mj), .int (nI fa), .int (nI ic), u6, u7, .int x8, .int x9, .int k1, .int k2, .int k3, .int k4, .int k5, .int k6, .int k7])) (hn : n ≤ 65540) (hp : p ≤ n) (l_r : r < M.2.1) (l_b : b < M.2.1) (l_da : da < M.2.1) (l_vd : vd < M.2.1) (l_c : c < M.2.1) : pt (mT g) 164 [.ref r] M (fun v M' => (∃ (p' mm : Nat) (it' : Int32) (G : Nat → Nat), (s_mbs f n p = .inr p') ∧ (p + 2 ≤ n) ∧ (∀ i, M.2.1 ≤ G i) ∧ (MV f (mbs f n (by2 f p) (p + 2)) mm G 0 M') ∧ v = some (.int 1) ∧ M'.1 r = some (ob 9 [.ref c, .ref b, .ref vd, .int (nI p'), .int it']) ∧ M'.1 vd = some (ob 10 [.int ru, .int wa]) ∧ M'.1 c = some (ob 3 [.ref b, .ref q, .int mi, .int (nI mj), .int (nI fa), .int (nI ic), .ref mm, u7, .int x8, .int x9, .int k1, .int k2, .int k3, .int k4, .int k5, .int k6, .int k7]) ∧ gm [r, vd, c] M M' ∧ M.2.1 ≤ M'.2.1) ∨ (∃ (e : Nat × Nat), (s_mbs f n p = .inl e) ∧ v = some (.int 0) ∧ M'.1 vd = some (ob 10 [.int (nI e.1), .int (nI e.2)]) ∧ gm [r, vd, c] M M' ∧ M.2.1 ≤ M'.2.1)) := by
  refine pt_in (b := mb_164 g) rfl (fun kf => ?_)
  show pl (mT g) kf (mb_164 g).2 (0, [(0, .ref r)], [], M) _
  have hF : gm [r, vd, c] M M := gm.rf
  obtain ⟨z0, tp0⟩ : ∃ z0, M.2.1 = z0 := ⟨_, rfl⟩
  refine ps_st (S' := (1, [(0, .ref r)], [.ref r], M)) rfl rfl rfl ?_
  refine ps_st (S' := (2, [(0, .ref r)], [.int 2, .ref r], M)) rfl rfl rfl ?_
  refine pl_call (a := [.ref r, .int 2]) (rest := []) rfl rfl rfl (dk_takes2 (r := r) (c := c) (b := b) (vd := vd) (da := da) (n := n) (p := p) (f := f) (it := it) (ru := ru) (wa := wa) h_r h_b h_da h_vd (hn) (by omega)) (fun v1 M2 q3 => ?_)
  rcases q3 with q3 | q3
  · skip
    obtain ⟨q2_s, rfl, h4, h5, f6⟩ := q3
    have h8 := (f6.1 b (nin2 (ob_ne h_b h_r (by decide)) (ob_ne h_b h_vd (by decide)))).trans h_b
    have h9 := (f6.1 da (nin2 (Ne.symm (ob_ar h_r h_da)) (Ne.symm (ob_ar h_vd h_da)))).trans h_da
    have h10 := (f6.1 c (nin2 (ob_ne h_c h_r (by decide)) (ob_ne h_c h_vd (by decide)))).trans h_c
    have hF11 := hF.trf f6 (by intro z hz; simp only [List.mem_cons, List.not_mem_nil, or_false] at hz ⊢; try omega)
    have tp12 : M2.2.1 = z0 := by rw [f6.2]; exact tp0
    show pl _ _ _ (5, [(0, .ref r)], [.int 1], M2) _
    refine ps_if (S1 := (10, [(0, .ref r)], [], M2)) (S2 := (8, [(0, .ref r)], [], M2)) rfl rfl rfl (fun c_5 => ?_) (fun c_5 => ?_)
    rotate_left
    · exact absurd (by decide) (of_decide_eq_false c_5)
    refine ps_st (S' := (11, [(0, .ref r)], [.ref r], M2)) rfl rfl rfl ?_
    refine ps_get (S' := (14, [(0, .ref r)], [.ref c], M2)) rfl h4 rfl rfl ?_
    refine ps_st (S' := (15, [(0, .ref r)], [.ref r, .ref c], M2)) rfl rfl rfl ?_
    refine ps_st (S' := (16, [(0, .ref r)], [.ref r, .ref r, .ref c], M2)) rfl rfl rfl ?_
    refine ps_get (S' := (19, [(0, .ref r)], [.int (nI (by2 f p)), .ref r, .ref c], M2)) rfl h4 rfl rfl ?_
    refine pl_call (a := [.ref r, .int (nI (by2 f p))]) (rest := [.ref c]) rfl rfl rfl (dk_roomFor (r := r) (c := c) (b := b) (vd := vd) (da := da) (n := n) (p := (p + 2)) (f := f) (it := (nI (by2 f p))) (t := (by2 f p)) h4 h8 h9 (hn) (by omega) (by2_lt _ _)) (fun v13 M14 q15 => ?_)
    obtain ⟨rfl, rfl⟩ := q15
    show pl _ _ _ (22, [(0, .ref r)], [.int (nI (min (by2 f p) ((n - (p + 2)) / 8))), .ref c], M2) _
    refine ps_anew rfl tp12 (fun M16 i0_22 h17 f18 tp19 => ?_)
    rw [nI_toNat (by omega)] at h17
    have h20 := (f18 r (show r ≠ z0 by omega)).trans h4
    have h21 := (f18 b (show b ≠ z0 by omega)).trans h8
    have h22 := (f18 da (show da ≠ z0 by omega)).trans h9
    have h23 := (f18 vd (show vd ≠ z0 by omega)).trans h5
    have h24 := (f18 c (show c ≠ z0 by omega)).trans h10
    have hF25 := hF11.up (Or.inr (by omega)) f18 (by omega)
    show pl _ _ _ (25, [(0, .ref r)], [.ref z0, .ref c], M16) _
    refine ps_put (l' := [.ref b, .ref q, .int mi, .int (nI mj), .int (nI fa), .int (nI ic), .ref z0, u7, .int x8, .int x9, .int k1, .int k2, .int k3, .int k4, .int k5, .int k6, .int k7]) rfl h24 rfl rfl (fun M26 h27 f28 z29 => ?_)
    have h30 := (f28 r (ob_ne h20 h24 (by decide))).trans h20
    have h31 := (f28 b (ob_ne h21 h24 (by decide))).trans h21
    have h32 := (f28 da (Ne.symm (ob_ar h24 h22))).trans h22
    have h33 := (f28 vd (ob_ne h23 h24 (by decide))).trans h23
    have h34 := (f28 z0 (show z0 ≠ c by omega)).trans h17
    have hF35 := hF25.up (Or.inl (by simp)) f28 (by rw [z29]; exact Nat.le_refl _)
    have tp36 : M26.2.1 = z0 + 1 := by rw [z29]; exact tp19
    show pl _ _ _ (28, [(0, .ref r)], [], M26) _
    refine ps_st (S' := (29, [(0, .ref r)], [.ref r], M26)) rfl rfl rfl ?_
    refine ps_st (S' := (30, [(0, .ref r)], [.ref r, .ref r], M26)) rfl rfl rfl ?_
    refine ps_get (S' := (33, [(0, .ref r)], [.ref c, .ref r], M26)) rfl h30 rfl rfl ?_
    refine ps_get (S' := (36, [(0, .ref r)], [.ref z0, .ref r], M26)) rfl h27 rfl rfl ?_
    refine ps_st (S' := (37, [(0, .ref r)], [.ref r, .ref z0, .ref r], M26)) rfl rfl rfl ?_
    refine ps_get (S' := (40, [(0, .ref r)], [.int (nI (by2 f p)), .ref z0, .ref r], M26)) rfl h30 rfl rfl ?_
    refine pl_call (a := [.ref r, .ref z0, .int (nI (by2 f p))]) (rest := []) rfl rfl rfl (dk_takesMembers (r := r) (c := c) (b := b) (vd := vd) (da := da) (n := n) (p := (p + 2)) (f := f) (it := (nI (by2 f p))) (ru := ru) (wa := wa) (mm := z0) (t := (by2 f p)) (cap := (min (by2 f p) ((n - (p + 2)) / 8))) h30 h31 h32 h33 h34 (hn) (by omega) (by2_lt _ _) (rfl) (by omega) (by omega) (by omega) (by omega) (by omega)) (fun v37 M38 q39 => ?_)
    rcases q39 with q39 | q39
    · skip
      obtain ⟨p'40, it'41, q40_s, q40_V, rfl, h42, h43, f44, tp45⟩ := q39
      have h46 := (f44.1 b (by omega) (nin3 (ob_ne h31 h30 (by decide)) (ob_ne h31 h33 (by decide)) (show b ≠ z0 by omega))).trans h31
      have h47 := (f44.1 da (by omega) (nin3 (Ne.symm (ob_ar h30 h32)) (Ne.symm (ob_ar h33 h32)) (show da ≠ z0 by omega))).trans h32
      have h48 := (f44.1 c (by omega) (nin3 (ob_ne h27 h30 (by decide)) (ob_ne h27 h33 (by decide)) (show c ≠ z0 by omega))).trans h27
      obtain ⟨t50, tp51⟩ : ∃ t9, M38.2.1 = t9 := ⟨_, rfl⟩
      rw [tp36, tp51] at tp45
      have hF49 := hF35.tr f44 (by intro z hz; simp only [List.mem_cons, List.not_mem_nil, or_false] at hz ⊢; try omega)
      show pl _ _ _ (43, [(0, .ref r)], [.int 1], M38) _
      exact ps_ret rfl rfl (Or.inl ⟨p'40, z0, _, _, by
          unfold s_mbs
          rw [if_neg (by omega)]
          exact q40_s, by omega, fun i => by show M.2.1 ≤ _; omega, q40_V, rfl, h42, h43, h48, hF49, hF49.2⟩)
    · skip
      obtain ⟨e52, q40_s, rfl, h53, f54, tp55⟩ := q39
      have h56 := (f54.1 b (by omega) (nin3 (ob_ne h31 h30 (by decide)) (ob_ne h31 h33 (by decide)) (show b ≠ z0 by omega))).trans h31
      have h57 := (f54.1 da (by omega) (nin3 (Ne.symm (ob_ar h30 h32)) (Ne.symm (ob_ar h33 h32)) (show da ≠ z0 by omega))).trans h32
      have h58 := (f54.1 c (by omega) (nin3 (ob_ne h27 h30 (by decide)) (ob_ne h27 h33 (by decide)) (show c ≠ z0 by omega))).trans h27
      obtain ⟨t60, tp61⟩ : ∃ t9, M38.2.1 = t9 := ⟨_, rfl⟩
      rw [tp36, tp61] at tp55
      have hF59 := hF35.tr f54 (by intro z hz; simp only [List.mem_cons, List.not_mem_nil, or_false] at hz ⊢; try omega)
      show pl _ _ _ (43, [(0, .ref r)], [.int 0], M38) _
      exact ps_ret rfl rfl (Or.inr ⟨e52, by
          unfold s_mbs
          rw [if_neg (by omega)]
          exact q40_s, rfl, h53, hF59, hF59.2⟩)
  · skip
    obtain ⟨q2_s, rfl, h62, h63, f64⟩ := q3
    have h66 := (f64.1 b (nin2 (ob_ne h_b h_r (by decide)) (ob_ne h_b h_vd (by decide)))).trans h_b
    have h67 := (f64.1 da (nin2 (Ne.symm (ob_ar h_r h_da)) (Ne.symm (ob_ar h_vd h_da)))).trans h_da
    have h68 := (f64.1 c (nin2 (ob_ne h_c h_r (by decide)) (ob_ne h_c h_vd (by decide)))).trans h_c
    have hF69 := hF.trf f64 (by intro z hz; simp only [List.mem_cons, List.not_mem_nil, or_false] at hz ⊢; try omega)
    have tp70 : M2.2.1 = z0 := by rw [f64.2]; exact tp0
    show pl _ _ _ (5, [(0, .ref r)], [.int 0], M2) _
    refine ps_if (S1 := (10, [(0, .ref r)], [], M2)) (S2 := (8, [(0, .ref r)], [], M2)) rfl rfl rfl (fun c_5 => ?_) (fun c_5 => ?_)
    · exact absurd (of_decide_eq_true c_5) (by decide)
    refine ps_st (S' := (9, [(0, .ref r)], [.int 0], M2)) rfl rfl rfl ?_
    exact ps_ret rfl rfl (Or.inr ⟨(1, p), by
        unfold s_mbs
        rw [if_pos (by omega)], rfl, h63, hF69, hF69.2⟩)
set_option maxHeartbeats 1000000 in
theorem dk_takesMethods {g : xe_G} {M : mi_H} {r c b vd da n p q fa ic mj : Nat} {f : Nat → Int32} {it ru wa : Int32} {mi x8 x9 k1 k2 k3 k4 k5 k6 k7 : Int32} {m1 : Nat} {u7 : Value} (h_r : M.1 r = some (ob 9 [.ref c, .ref b, .ref vd, .int (nI p), .int it])) (h_b : M.1 b = some (ob 1 [.ref da])) (h_da : M.1 da = some (ar .byte n f)) (h_vd : M.1 vd = some (ob 10 [.int ru, .int wa])) (h_c : M.1 c = some (ob 3 [.ref b, .ref q, .int mi, .int (nI mj), .int (nI fa), .int (nI ic), .ref m1, u7, .int x8, .int x9, .int k1, .int k2, .int k3, .int k4, .int k5, .int k6, .int k7])) (hn : n ≤ 65540) (hp : p ≤ n) (l_r : r < M.2.1) (l_b : b < M.2.1) (l_da : da < M.2.1) (l_vd : vd < M.2.1) (l_c : c < M.2.1) : pt (mT g) 168 [.ref r] M (fun v M' => (∃ (p' mm : Nat) (it' : Int32) (G : Nat → Nat), (s_mbs f n p = .inr p') ∧ (p + 2 ≤ n) ∧ (∀ i, M.2.1 ≤ G i) ∧ (MV f (mbs f n (by2 f p) (p + 2)) mm G 0 M') ∧ v = some (.int 1) ∧ M'.1 r = some (ob 9 [.ref c, .ref b, .ref vd, .int (nI p'), .int it']) ∧ M'.1 vd = some (ob 10 [.int ru, .int wa]) ∧ M'.1 c = some (ob 3 [.ref b, .ref q, .int mi, .int (nI mj), .int (nI fa), .int (nI ic), .ref m1, .ref mm, .int x8, .int x9, .int k1, .int k2, .int k3, .int k4, .int k5, .int k6, .int k7]) ∧ gm [r, vd, c] M M' ∧ M.2.1 ≤ M'.2.1) ∨ (∃ (e : Nat × Nat), (s_mbs f n p = .inl e) ∧ v = some (.int 0) ∧ M'.1 vd = some (ob 10 [.int (nI e.1), .int (nI e.2)]) ∧ gm [r, vd, c] M M' ∧ M.2.1 ≤ M'.2.1)) := by
  refine pt_in (b := mb_168 g) rfl (fun kf => ?_)
  show pl (mT g) kf (mb_168 g).2 (0, [(0, .ref r)], [], M) _
  have hF : gm [r, vd, c] M M := gm.rf
  obtain ⟨z0, tp0⟩ : ∃ z0, M.2.1 = z0 := ⟨_, rfl⟩
  refine ps_st (S' := (1, [(0, .ref r)], [.ref r], M)) rfl rfl rfl ?_
  refine ps_st (S' := (2, [(0, .ref r)], [.int 2, .ref r], M)) rfl rfl rfl ?_
  refine pl_call (a := [.ref r, .int 2]) (rest := []) rfl rfl rfl (dk_takes2 (r := r) (c := c) (b := b) (vd := vd) (da := da) (n := n) (p := p) (f := f) (it := it) (ru := ru) (wa := wa) h_r h_b h_da h_vd (hn) (by omega)) (fun v1 M2 q3 => ?_)
  rcases q3 with q3 | q3
  · skip
    obtain ⟨q2_s, rfl, h4, h5, f6⟩ := q3
    have h8 := (f6.1 b (nin2 (ob_ne h_b h_r (by decide)) (ob_ne h_b h_vd (by decide)))).trans h_b
    have h9 := (f6.1 da (nin2 (Ne.symm (ob_ar h_r h_da)) (Ne.symm (ob_ar h_vd h_da)))).trans h_da
    have h10 := (f6.1 c (nin2 (ob_ne h_c h_r (by decide)) (ob_ne h_c h_vd (by decide)))).trans h_c
    have hF11 := hF.trf f6 (by intro z hz; simp only [List.mem_cons, List.not_mem_nil, or_false] at hz ⊢; try omega)
    have tp12 : M2.2.1 = z0 := by rw [f6.2]; exact tp0
    show pl _ _ _ (5, [(0, .ref r)], [.int 1], M2) _
    refine ps_if (S1 := (10, [(0, .ref r)], [], M2)) (S2 := (8, [(0, .ref r)], [], M2)) rfl rfl rfl (fun c_5 => ?_) (fun c_5 => ?_)
    rotate_left
    · exact absurd (by decide) (of_decide_eq_false c_5)
    refine ps_st (S' := (11, [(0, .ref r)], [.ref r], M2)) rfl rfl rfl ?_
    refine ps_get (S' := (14, [(0, .ref r)], [.ref c], M2)) rfl h4 rfl rfl ?_
    refine ps_st (S' := (15, [(0, .ref r)], [.ref r, .ref c], M2)) rfl rfl rfl ?_
    refine ps_st (S' := (16, [(0, .ref r)], [.ref r, .ref r, .ref c], M2)) rfl rfl rfl ?_
    refine ps_get (S' := (19, [(0, .ref r)], [.int (nI (by2 f p)), .ref r, .ref c], M2)) rfl h4 rfl rfl ?_
    refine pl_call (a := [.ref r, .int (nI (by2 f p))]) (rest := [.ref c]) rfl rfl rfl (dk_roomFor (r := r) (c := c) (b := b) (vd := vd) (da := da) (n := n) (p := (p + 2)) (f := f) (it := (nI (by2 f p))) (t := (by2 f p)) h4 h8 h9 (hn) (by omega) (by2_lt _ _)) (fun v13 M14 q15 => ?_)
    obtain ⟨rfl, rfl⟩ := q15
    show pl _ _ _ (22, [(0, .ref r)], [.int (nI (min (by2 f p) ((n - (p + 2)) / 8))), .ref c], M2) _
    refine ps_anew rfl tp12 (fun M16 i0_22 h17 f18 tp19 => ?_)
    rw [nI_toNat (by omega)] at h17
    have h20 := (f18 r (show r ≠ z0 by omega)).trans h4
    have h21 := (f18 b (show b ≠ z0 by omega)).trans h8
    have h22 := (f18 da (show da ≠ z0 by omega)).trans h9
    have h23 := (f18 vd (show vd ≠ z0 by omega)).trans h5
    have h24 := (f18 c (show c ≠ z0 by omega)).trans h10
    have hF25 := hF11.up (Or.inr (by omega)) f18 (by omega)
    show pl _ _ _ (25, [(0, .ref r)], [.ref z0, .ref c], M16) _
    refine ps_put (l' := [.ref b, .ref q, .int mi, .int (nI mj), .int (nI fa), .int (nI ic), .ref m1, .ref z0, .int x8, .int x9, .int k1, .int k2, .int k3, .int k4, .int k5, .int k6, .int k7]) rfl h24 rfl rfl (fun M26 h27 f28 z29 => ?_)
    have h30 := (f28 r (ob_ne h20 h24 (by decide))).trans h20
    have h31 := (f28 b (ob_ne h21 h24 (by decide))).trans h21
    have h32 := (f28 da (Ne.symm (ob_ar h24 h22))).trans h22
    have h33 := (f28 vd (ob_ne h23 h24 (by decide))).trans h23
    have h34 := (f28 z0 (show z0 ≠ c by omega)).trans h17
    have hF35 := hF25.up (Or.inl (by simp)) f28 (by rw [z29]; exact Nat.le_refl _)
    have tp36 : M26.2.1 = z0 + 1 := by rw [z29]; exact tp19
    show pl _ _ _ (28, [(0, .ref r)], [], M26) _
    refine ps_st (S' := (29, [(0, .ref r)], [.ref r], M26)) rfl rfl rfl ?_
    refine ps_st (S' := (30, [(0, .ref r)], [.ref r, .ref r], M26)) rfl rfl rfl ?_
    refine ps_get (S' := (33, [(0, .ref r)], [.ref c, .ref r], M26)) rfl h30 rfl rfl ?_
    refine ps_get (S' := (36, [(0, .ref r)], [.ref z0, .ref r], M26)) rfl h27 rfl rfl ?_
    refine ps_st (S' := (37, [(0, .ref r)], [.ref r, .ref z0, .ref r], M26)) rfl rfl rfl ?_
    refine ps_get (S' := (40, [(0, .ref r)], [.int (nI (by2 f p)), .ref z0, .ref r], M26)) rfl h30 rfl rfl ?_
    refine pl_call (a := [.ref r, .ref z0, .int (nI (by2 f p))]) (rest := []) rfl rfl rfl (dk_takesMembers (r := r) (c := c) (b := b) (vd := vd) (da := da) (n := n) (p := (p + 2)) (f := f) (it := (nI (by2 f p))) (ru := ru) (wa := wa) (mm := z0) (t := (by2 f p)) (cap := (min (by2 f p) ((n - (p + 2)) / 8))) h30 h31 h32 h33 h34 (hn) (by omega) (by2_lt _ _) (rfl) (by omega) (by omega) (by omega) (by omega) (by omega)) (fun v37 M38 q39 => ?_)
    rcases q39 with q39 | q39
    · skip
      obtain ⟨p'40, it'41, q40_s, q40_V, rfl, h42, h43, f44, tp45⟩ := q39
      have h46 := (f44.1 b (by omega) (nin3 (ob_ne h31 h30 (by decide)) (ob_ne h31 h33 (by decide)) (show b ≠ z0 by omega))).trans h31
      have h47 := (f44.1 da (by omega) (nin3 (Ne.symm (ob_ar h30 h32)) (Ne.symm (ob_ar h33 h32)) (show da ≠ z0 by omega))).trans h32
      have h48 := (f44.1 c (by omega) (nin3 (ob_ne h27 h30 (by decide)) (ob_ne h27 h33 (by decide)) (show c ≠ z0 by omega))).trans h27
      obtain ⟨t50, tp51⟩ : ∃ t9, M38.2.1 = t9 := ⟨_, rfl⟩
      rw [tp36, tp51] at tp45
      have hF49 := hF35.tr f44 (by intro z hz; simp only [List.mem_cons, List.not_mem_nil, or_false] at hz ⊢; try omega)
      show pl _ _ _ (43, [(0, .ref r)], [.int 1], M38) _
      exact ps_ret rfl rfl (Or.inl ⟨p'40, z0, _, _, by
          unfold s_mbs
          rw [if_neg (by omega)]
          exact q40_s, by omega, fun i => by show M.2.1 ≤ _; omega, q40_V, rfl, h42, h43, h48, hF49, hF49.2⟩)
    · skip
      obtain ⟨e52, q40_s, rfl, h53, f54, tp55⟩ := q39
      have h56 := (f54.1 b (by omega) (nin3 (ob_ne h31 h30 (by decide)) (ob_ne h31 h33 (by decide)) (show b ≠ z0 by omega))).trans h31
      have h57 := (f54.1 da (by omega) (nin3 (Ne.symm (ob_ar h30 h32)) (Ne.symm (ob_ar h33 h32)) (show da ≠ z0 by omega))).trans h32
      have h58 := (f54.1 c (by omega) (nin3 (ob_ne h27 h30 (by decide)) (ob_ne h27 h33 (by decide)) (show c ≠ z0 by omega))).trans h27
      obtain ⟨t60, tp61⟩ : ∃ t9, M38.2.1 = t9 := ⟨_, rfl⟩
      rw [tp36, tp61] at tp55
      have hF59 := hF35.tr f54 (by intro z hz; simp only [List.mem_cons, List.not_mem_nil, or_false] at hz ⊢; try omega)
      show pl _ _ _ (43, [(0, .ref r)], [.int 0], M38) _
      exact ps_ret rfl rfl (Or.inr ⟨e52, by
          unfold s_mbs
          rw [if_neg (by omega)]
          exact q40_s, rfl, h53, hF59, hF59.2⟩)
  · skip
    obtain ⟨q2_s, rfl, h62, h63, f64⟩ := q3
    have h66 := (f64.1 b (nin2 (ob_ne h_b h_r (by decide)) (ob_ne h_b h_vd (by decide)))).trans h_b
    have h67 := (f64.1 da (nin2 (Ne.symm (ob_ar h_r h_da)) (Ne.symm (ob_ar h_vd h_da)))).trans h_da
    have h68 := (f64.1 c (nin2 (ob_ne h_c h_r (by decide)) (ob_ne h_c h_vd (by decide)))).trans h_c
    have hF69 := hF.trf f64 (by intro z hz; simp only [List.mem_cons, List.not_mem_nil, or_false] at hz ⊢; try omega)
    have tp70 : M2.2.1 = z0 := by rw [f64.2]; exact tp0
    show pl _ _ _ (5, [(0, .ref r)], [.int 0], M2) _
    refine ps_if (S1 := (10, [(0, .ref r)], [], M2)) (S2 := (8, [(0, .ref r)], [], M2)) rfl rfl rfl (fun c_5 => ?_) (fun c_5 => ?_)
    · exact absurd (of_decide_eq_true c_5) (by decide)
    refine ps_st (S' := (9, [(0, .ref r)], [.int 0], M2)) rfl rfl rfl ?_
    exact ps_ret rfl rfl (Or.inr ⟨(1, p), by
        unfold s_mbs
        rw [if_pos (by omega)], rfl, h63, hF69, hF69.2⟩)
set_option maxHeartbeats 1000000 in
theorem dk_takesEnd {g : xe_G} {M : mi_H} {r c b vd da n p q fa ic mj : Nat} {f : Nat → Int32} {it ru wa : Int32} {mi x8 x9 k1 k2 k3 k4 k5 k6 k7 : Int32} {m1 m2 : Nat} (h_r : M.1 r = some (ob 9 [.ref c, .ref b, .ref vd, .int (nI p), .int it])) (h_b : M.1 b = some (ob 1 [.ref da])) (h_da : M.1 da = some (ar .byte n f)) (h_vd : M.1 vd = some (ob 10 [.int ru, .int wa])) (h_c : M.1 c = some (ob 3 [.ref b, .ref q, .int mi, .int (nI mj), .int (nI fa), .int (nI ic), .ref m1, .ref m2, .int x8, .int x9, .int k1, .int k2, .int k3, .int k4, .int k5, .int k6, .int k7])) (hn : n ≤ 65540) (hp : p ≤ n) : pt (mT g) 162 [.ref r] M (fun v M' => (∃ (it' : Int32), (s_end f n p = none) ∧ (s_attributes f n p = .inr n) ∧ v = some (.int 1) ∧ M'.1 r = some (ob 9 [.ref c, .ref b, .ref vd, .int (nI n), .int it']) ∧ M'.1 vd = some (ob 10 [.int ru, .int wa]) ∧ M'.1 c = some (ob 3 [.ref b, .ref q, .int mi, .int (nI mj), .int (nI fa), .int (nI ic), .ref m1, .ref m2, .int (nI (by2 f p)), .int (nI (p + 2)), .int k1, .int k2, .int k3, .int k4, .int k5, .int k6, .int k7]) ∧ fm [r, vd, c] M M') ∨ (∃ (e : Nat × Nat), (s_end f n p = some e) ∧ v = some (.int 0) ∧ M'.1 vd = some (ob 10 [.int (nI e.1), .int (nI e.2)]) ∧ fm [r, vd, c] M M')) := by
  refine pt_in (b := mb_162 g) rfl (fun kf => ?_)
  show pl (mT g) kf (mb_162 g).2 (0, [(0, .ref r)], [], M) _
  have hF : fm [r, vd, c] M M := fm.rf
  refine ps_st (S' := (1, [(0, .ref r)], [.ref r], M)) rfl rfl rfl ?_
  refine ps_get (S' := (4, [(0, .ref r)], [.ref c], M)) rfl h_r rfl rfl ?_
  refine ps_st (S' := (5, [(0, .ref r)], [.ref r, .ref c], M)) rfl rfl rfl ?_
  refine ps_get (S' := (8, [(0, .ref r)], [.ref b, .ref c], M)) rfl h_r rfl rfl ?_
  refine ps_st (S' := (9, [(0, .ref r)], [.ref r, .ref b, .ref c], M)) rfl rfl rfl ?_
  refine ps_get (S' := (12, [(0, .ref r)], [.int (nI p), .ref b, .ref c], M)) rfl h_r rfl rfl ?_
  refine pl_call (a := [.ref b, .int (nI p)]) (rest := [.ref c]) rfl rfl rfl (dk_u2g (f := f) (n := n) (b := b) (da := da) (x := (nI p)) h_b h_da (hn)) (fun v1 M2 q3 => ?_)
  obtain ⟨rfl, rfl⟩ := q3
  show pl _ _ _ (15, [(0, .ref r)], [.int (sp_u2 n f (nI p)), .ref c], M) _
  refine ps_put (l' := [.ref b, .ref q, .int mi, .int (nI mj), .int (nI fa), .int (nI ic), .ref m1, .ref m2, .int (sp_u2 n f (nI p)), .int x9, .int k1, .int k2, .int k3, .int k4, .int k5, .int k6, .int k7]) rfl h_c rfl rfl (fun M4 h5 f6 z7 => ?_)
  have h8 := (f6 r (ob_ne h_r h_c (by decide))).trans h_r
  have h9 := (f6 b (ob_ne h_b h_c (by decide))).trans h_b
  have h10 := (f6 da (Ne.symm (ob_ar h_c h_da))).trans h_da
  have h11 := (f6 vd (ob_ne h_vd h_c (by decide))).trans h_vd
  have hF12 := hF.up (by simp) f6 z7
  show pl _ _ _ (18, [(0, .ref r)], [], M4) _
  refine ps_st (S' := (19, [(0, .ref r)], [.ref r], M4)) rfl rfl rfl ?_
  refine ps_get (S' := (22, [(0, .ref r)], [.ref c], M4)) rfl h8 rfl rfl ?_
  refine ps_st (S' := (23, [(0, .ref r)], [.ref r, .ref c], M4)) rfl rfl rfl ?_
  refine ps_get (S' := (26, [(0, .ref r)], [.int (nI p), .ref c], M4)) rfl h8 rfl rfl ?_
  refine ps_st (S' := (27, [(0, .ref r)], [.int 2, .int (nI p), .ref c], M4)) rfl rfl rfl ?_
  refine ps_st (S' := (28, [(0, .ref r)], [.int ((nI p) + 2), .ref c], M4)) rfl rfl rfl ?_
  rw [nI_add1 (p := p) (k := 2) (x := 2) rfl (by omega)]
  show pl _ _ _ (_, [(0, .ref r)], [.int (nI (p + 2)), .ref c], M4) _
  refine ps_put (l' := [.ref b, .ref q, .int mi, .int (nI mj), .int (nI fa), .int (nI ic), .ref m1, .ref m2, .int (sp_u2 n f (nI p)), .int (nI (p + 2)), .int k1, .int k2, .int k3, .int k4, .int k5, .int k6, .int k7]) rfl h5 rfl rfl (fun M13 h14 f15 z16 => ?_)
  have h17 := (f15 r (ob_ne h8 h5 (by decide))).trans h8
  have h18 := (f15 b (ob_ne h9 h5 (by decide))).trans h9
  have h19 := (f15 da (Ne.symm (ob_ar h5 h10))).trans h10
  have h20 := (f15 vd (ob_ne h11 h5 (by decide))).trans h11
  have hF21 := hF12.up (by simp) f15 z16
  show pl _ _ _ (31, [(0, .ref r)], [], M13) _
  refine ps_st (S' := (32, [(0, .ref r)], [.ref r], M13)) rfl rfl rfl ?_
  refine pl_call (a := [.ref r]) (rest := []) rfl rfl rfl (dk_takesAttributes (r := r) (c := c) (b := b) (vd := vd) (da := da) (n := n) (p := p) (f := f) (it := it) (ru := ru) (wa := wa) h17 h18 h19 h20 (hn) (by omega)) (fun v22 M23 q24 => ?_)
  rcases q24 with q24 | q24
  · skip
    obtain ⟨p'25, it'26, q32_s, rfl, h27, h28, f29⟩ := q24
    have h31 := (f29.1 b (nin2 (ob_ne h18 h17 (by decide)) (ob_ne h18 h20 (by decide)))).trans h18
    have h32 := (f29.1 da (nin2 (Ne.symm (ob_ar h17 h19)) (Ne.symm (ob_ar h20 h19)))).trans h19
    have h33 := (f29.1 c (nin2 (ob_ne h14 h17 (by decide)) (ob_ne h14 h20 (by decide)))).trans h14
    have hF34 := hF21.tr f29 (by simp)
    show pl _ _ _ (35, [(0, .ref r)], [.int 1], M23) _
    have hle_32 := s_attributes_le2 q32_s
    refine ps_if (S1 := (40, [(0, .ref r)], [], M23)) (S2 := (38, [(0, .ref r)], [], M23)) rfl rfl rfl (fun c_35 => ?_) (fun c_35 => ?_)
    rotate_left
    · exact absurd (by decide) (of_decide_eq_false c_35)
    refine ps_st (S' := (41, [(0, .ref r)], [.ref r], M23)) rfl rfl rfl ?_
    refine ps_get (S' := (44, [(0, .ref r)], [.int (nI p'25)], M23)) rfl h27 rfl rfl ?_
    refine ps_st (S' := (45, [(0, .ref r)], [.ref r, .int (nI p'25)], M23)) rfl rfl rfl ?_
    refine ps_get (S' := (48, [(0, .ref r)], [.ref b, .int (nI p'25)], M23)) rfl h27 rfl rfl ?_
    refine pl_call (a := [.ref b]) (rest := [.int (nI p'25)]) rfl rfl rfl (dk_size (f := f) (n := n) (b := b) (da := da) h31 h32 (hn)) (fun v35 M36 q37 => ?_)
    obtain ⟨rfl, rfl⟩ := q37
    show pl _ _ _ (51, [(0, .ref r)], [.int (nI n), .int (nI p'25)], M23) _
    refine ps_if2 (S1 := (70, [], [], M23)) (S2 := (54, [(0, .ref r)], [], M23)) rfl rfl rfl (fun c_51 => ?_) (fun c_51 => ?_)
    · have c_51 : (nI p'25) = (nI n) := of_decide_eq_true c_51
      have n_51 : p'25 = n := (eq_nI (p := p'25) (n := n) (by omega) (by omega)).mp c_51
      refine ps_st (S' := (71, [], [.int 1], M23)) rfl rfl rfl ?_
      refine ps_st (S' := (75, [], [.int 1], M23)) rfl rfl rfl ?_
      exact ps_ret rfl rfl (Or.inl ⟨_, by
          unfold s_end
          rw [q32_s]
          dsimp only
          rw [if_pos n_51], by rw [q32_s, n_51], rfl, by rw [← n_51]; exact h27, h28, by rw [← u2_nI hn (p := p) (by omega)]; exact h33, hF34⟩)
    · have c_51 : ¬ ((nI p'25) = (nI n)) := of_decide_eq_false c_51
      have n_51 : ¬ (p'25 = n) := fun h9 => c_51 ((eq_nI (p := p'25) (n := n) (by omega) (by omega)).mpr h9)
      refine ps_st (S' := (55, [(0, .ref r)], [.ref r], M23)) rfl rfl rfl ?_
      refine ps_get (S' := (58, [(0, .ref r)], [.ref vd], M23)) rfl h27 rfl rfl ?_
      refine ps_st (S' := (60, [(0, .ref r)], [.int 8, .ref vd], M23)) rfl rfl rfl ?_
      refine ps_st (S' := (61, [(0, .ref r)], [.ref r, .int 8, .ref vd], M23)) rfl rfl rfl ?_
      refine ps_get (S' := (64, [(0, .ref r)], [.int (nI p'25), .int 8, .ref vd], M23)) rfl h27 rfl rfl ?_
      refine pl_call (a := [.ref vd, .int 8, .int (nI p'25)]) (rest := []) rfl rfl rfl (dk_wrong (vd := vd) (ru := ru) (wa := wa) (x1 := 8) (x2 := (nI p'25)) h28) (fun v38 M39 q40 => ?_)
      obtain ⟨rfl, h41, f42⟩ := q40
      have h44 := (f42.1 r (nin1 (ob_ne h27 h28 (by decide)))).trans h27
      have h45 := (f42.1 b (nin1 (ob_ne h31 h28 (by decide)))).trans h31
      have h46 := (f42.1 da (nin1 (Ne.symm (ob_ar h28 h32)))).trans h32
      have h47 := (f42.1 c (nin1 (ob_ne h33 h28 (by decide)))).trans h33
      have hF48 := hF34.tr f42 (by simp)
      show pl _ _ _ (67, [(0, .ref r)], [.int 0], M39) _
      refine ps_if (S1 := (74, [(0, .ref r)], [], M39)) (S2 := (70, [], [], M39)) rfl rfl rfl (fun c_67 => ?_) (fun c_67 => ?_)
      rotate_left
      · exact absurd (by decide) (of_decide_eq_false c_67)
      refine ps_st (S' := (75, [], [.int 0], M39)) rfl rfl rfl ?_
      exact ps_ret rfl rfl (Or.inr ⟨(8, p'25), by
          unfold s_end
          rw [q32_s]
          dsimp only
          rw [if_neg n_51], rfl, h41, hF48⟩)
  · skip
    obtain ⟨e49, q32_s, rfl, h50, f51⟩ := q24
    have h53 := (f51.1 b (nin2 (ob_ne h18 h17 (by decide)) (ob_ne h18 h20 (by decide)))).trans h18
    have h54 := (f51.1 da (nin2 (Ne.symm (ob_ar h17 h19)) (Ne.symm (ob_ar h20 h19)))).trans h19
    have h55 := (f51.1 c (nin2 (ob_ne h14 h17 (by decide)) (ob_ne h14 h20 (by decide)))).trans h14
    have hF56 := hF21.tr f51 (by simp)
    show pl _ _ _ (35, [(0, .ref r)], [.int 0], M23) _
    refine ps_if (S1 := (40, [(0, .ref r)], [], M23)) (S2 := (38, [(0, .ref r)], [], M23)) rfl rfl rfl (fun c_35 => ?_) (fun c_35 => ?_)
    · exact absurd (of_decide_eq_true c_35) (by decide)
    refine ps_st (S' := (39, [(0, .ref r)], [.int 0], M23)) rfl rfl rfl ?_
    exact ps_ret rfl rfl (Or.inr ⟨e49, by
        unfold s_end
        rw [q32_s], rfl, h50, hF56⟩)
end
