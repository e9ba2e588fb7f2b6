/-! the Code attribute (laid by wip/p4/d13.py) -/

theorem s_atE_in {f : Nat → Int32} {e c i p x : Nat} (h : s_atE f e (c - i) p = some x) (hi : i < c) : p + 6 ≤ e ∧ p + 6 + by4 f (p + 2) ≤ e ∧ s_atE f e (c - (i + 1)) (p + 6 + by4 f (p + 2)) = some x := by
  rw [s_atE_st hi] at h
  split at h
  · cases h
  · split at h
    · cases h
    · exact ⟨by omega, by omega, h⟩
theorem s_cdE_in {f : Nat → Int32} {e p x : Nat} (h : s_cdE f e p = some x) : p + 8 + by4 f (p + 4) + 2 + 8 * by2 f (p + 8 + by4 f (p + 4)) + 2 ≤ e ∧ True ∧ s_atE f e (by2 f (p + 8 + by4 f (p + 4) + 2 + 8 * by2 f (p + 8 + by4 f (p + 4)))) (p + 8 + by4 f (p + 4) + 2 + 8 * by2 f (p + 8 + by4 f (p + 4)) + 2) = some x := by
  unfold s_cdE at h
  split at h
  · cases h
  · split at h
    · cases h
    · split at h
      · cases h
      · exact ⟨by omega, trivial, h⟩
theorem s_rcE_in {f : Nat → Int32} {e c i p x : Nat} (h : s_rcE f e (c - i) p = some x) (hi : i < c) : p + 6 ≤ e ∧ ∃ y, s_atE f e (by2 f (p + 4)) (p + 6) = some y ∧ s_rcE f e (c - (i + 1)) y = some x := by
  rw [s_rcE_st hi] at h
  split at h
  · cases h
  · split at h
    · cases h
    · rename_i y hy
      exact ⟨by omega, y, hy, h⟩
theorem s_fe_in {f : Nat → Int32} {k p e : Nat} (h : s_fe f k p e = some e) : p + 2 ≤ e ∧ (k = 7 → p + 2 = e) ∧ (k = 3 ∨ k = 8 ∨ k = 10 → p + 2 + 2 * by2 f p = e) ∧ (k = 5 → p + 2 + 8 * by2 f p = e) ∧ (k = 6 → s_bsE f e (by2 f p) (p + 2) = some e) ∧ (k = 9 → s_rcE f e (by2 f p) (p + 2) = some e) ∧ (k = 2 → s_cdE f e p = some e) := by
  unfold s_fe at h
  split at h
  · cases h
  · refine ⟨by omega, fun hk => ?_, fun hk => ?_, fun hk => ?_, fun hk => ?_, fun hk => ?_, fun hk => ?_⟩
    · rw [if_pos (by omega)] at h
      exact Option.some.inj h
    · rw [if_neg (by omega), if_pos (by omega)] at h
      exact Option.some.inj h
    · rw [if_neg (by omega), if_neg (by omega), if_pos (by omega)] at h
      exact Option.some.inj h
    · rw [if_neg (by omega), if_neg (by omega), if_neg (by omega), if_pos (by omega)] at h
      exact h
    · rw [if_neg (by omega), if_neg (by omega), if_neg (by omega), if_neg (by omega), if_pos (by omega)] at h
      exact h
    · rw [if_neg (by omega), if_neg (by omega), if_neg (by omega), if_neg (by omega), if_neg (by omega)] at h
      exact h
theorem s_atts_in {f : Nat → Int32} {n c i p x : Nat} (h : s_atts f n (c - i) p = .inr x) (hi : i < c) : p + 6 ≤ n ∧ p + 6 + by4 f (p + 2) ≤ n ∧ s_atts f n (c - (i + 1)) (p + 6 + by4 f (p + 2)) = .inr x := by
  rw [show c - i = (c - (i + 1)) + 1 by omega] at h
  unfold s_atts at h
  split at h
  · cases h
  · split at h
    · cases h
    · split at h
      · cases h
      · exact ⟨by omega, by omega, h⟩
section ATC
variable {f : Nat → Int32} {n : Nat} {E : List (Nat × Nat)}
theorem faS_st {x c i p s : Nat} {d : List Nat} (h : i < c) : faS f n E x d (c - i) p s = match nwS f E s (fkN f n E (by2 f p)) p with
    | .inl e => some e
    | .inr s' => if ¬ fkN f n E (by2 f p) = 0 ∧ ¬ s_fe f 1 (p + 6) (p + 6 + by4 f (p + 2)) = some (p + 6 + by4 f (p + 2)) then some (30, p) else
      if ¬ fkN f n E (by2 f p) = 0 ∧ ¬ hasN x 8 = 0 ∧ ¬ ctS d = some (tg f E (by2 f (p + 6))) then some (31, p) else faS f n E x d (c - (i + 1)) (p + 6 + by4 f (p + 2)) s' := by
  rw [show c - i = (c - (i + 1)) + 1 by omega]
  rfl
theorem maS_st {mj w c i p s h : Nat} (hi : i < c) : maS f n E mj w (c - i) p s h = match nwS f E s (mkN f n E (by2 f p)) p with
    | .inl e => .inl e
    | .inr s' => if ¬ mkN f n E (by2 f p) = 0 ∧ ¬ s_fe f (mkN f n E (by2 f p)) (p + 6) (p + 6 + by4 f (p + 2)) = some (p + 6 + by4 f (p + 2)) then .inl (30, p) else
      if mkN f n E (by2 f p) = 2 then (match cdS f n E mj w p s' with
        | .inl e => .inl e
        | .inr s2 => maS f n E mj w (c - (i + 1)) (p + 6 + by4 f (p + 2)) s2 1) else
      if mkN f n E (by2 f p) = 3 ∧ clA f E (p + 8) (by2 f (p + 6)) 0 = 0 then .inl (32, p) else maS f n E mj w (c - (i + 1)) (p + 6 + by4 f (p + 2)) s' h := by
  rw [show c - i = (c - (i + 1)) + 1 by omega]
  rfl
theorem clS_st {x mj c i p s bc : Nat} (hi : i < c) : clS f n E x mj (c - i) p s bc = match nwS f E s (ckN f n E mj (by2 f p)) p with
    | .inl e => .inl e
    | .inr s' => if ¬ ckN f n E mj (by2 f p) = 0 ∧ ¬ s_fe f (ckN f n E mj (by2 f p)) (p + 6) (p + 6 + by4 f (p + 2)) = some (p + 6 + by4 f (p + 2)) then .inl (30, p) else
      match brS f n E x (ckN f n E mj (by2 f p)) p s' with
      | some (.inl r9) => .inl (r9, p)
      | some (.inr e) => .inl e
      | none => clS f n E x mj (c - (i + 1)) (p + 6 + by4 f (p + 2)) s' (if ckN f n E mj (by2 f p) = 6 then by2 f (p + 6) else bc) := by
  rw [show c - i = (c - (i + 1)) + 1 by omega]
  rfl
end ATC
set_option maxHeartbeats 1000000 in
theorem dk_isNew0 {g : xe_G} {M : mi_H} {f : Nat → Int32} {n N q : Nat} {E : List (Nat × Nat)} {ac c b da vd fr mr fa ic mj na pa : Nat} {mi ru wa s1 k1 k2 k3 k4 k5 k6 k7 : Int32} {p : Nat} (h_ac : M.1 ac = some (ob 0 [.ref c, .ref b, .ref q, .ref vd, .int s1])) (h_b : M.1 b = some (ob 1 [.ref da])) (h_da : M.1 da = some (ar .byte n f)) (h_vd : M.1 vd = some (ob 10 [.int ru, .int wa])) (hn : n ≤ 65540) (hin : p + 2 ≤ n) (hV : PV g f n N E q M) : pt (mT g) 36 [.ref ac, .int (nI p), .int 0] M (fun v M' => ((¬ tg f E (by2 f p) = 1) ∧ v = some (.int 0) ∧ M'.1 vd = some (ob 10 [.int 28, .int (nI p)]) ∧ fm [vd] M M') ∨ ((tg f E (by2 f p) = 1) ∧ v = some (.int 1) ∧ M'.1 vd = some (ob 10 [.int ru, .int wa]) ∧ fm [vd] M M')) := by
  refine pt_in (b := mb_36 g) rfl (fun kf => ?_)
  show pl (mT g) kf (mb_36 g).2 (0, [(0, .ref ac), (1, .int (nI p)), (2, .int 0)], [], M) _
  have hF : fm [vd] M M := fm.rf
  refine ps_st (S' := (1, [(0, .ref ac), (1, .int (nI p)), (2, .int 0)], [.ref ac], M)) rfl rfl rfl ?_
  refine ps_get (S' := (4, [(0, .ref ac), (1, .int (nI p)), (2, .int 0)], [.ref q], M)) rfl h_ac rfl rfl ?_
  refine ps_st (S' := (5, [(0, .ref ac), (1, .int (nI p)), (2, .int 0)], [.ref ac, .ref q], M)) rfl rfl rfl ?_
  refine ps_get (S' := (8, [(0, .ref ac), (1, .int (nI p)), (2, .int 0)], [.ref b, .ref q], M)) rfl h_ac rfl rfl ?_
  refine ps_st (S' := (9, [(0, .ref ac), (1, .int (nI p)), (2, .int 0)], [.int (nI p), .ref b, .ref q], M)) rfl rfl rfl ?_
  refine pl_call (a := [.ref b, .int (nI p)]) (rest := [.ref q]) rfl rfl rfl (dk_u2 (f := f) (n := n) (b := b) (da := da) (p := p) h_b h_da (hn) (by omega)) (fun v1 M2 q3 => ?_)
  obtain ⟨rfl, rfl⟩ := q3
  show pl _ _ _ (12, [(0, .ref ac), (1, .int (nI p)), (2, .int 0)], [.int (nI (by2 f p)), .ref q], M) _
  have hu_9 := by2_lt f p
  refine pl_call (a := [.ref q, .int (nI (by2 f p))]) (rest := []) rfl rfl rfl (dy_tagOf (f := f) (n := n) (N := N) (q := q) (E := E) (j := (by2 f p)) (hV) (by2_lt _ _)) (fun v4 M5 q6 => ?_)
  obtain ⟨rfl, rfl⟩ := q6
  show pl _ _ _ (15, [(0, .ref ac), (1, .int (nI p)), (2, .int 0)], [.int (nI (tg f E (by2 f p)))], M) _
  refine ps_st (S' := (16, [(0, .ref ac), (1, .int (nI p)), (2, .int 0)], [.int 1, .int (nI (tg f E (by2 f p)))], M)) rfl rfl rfl ?_
  refine ps_if2 (S1 := (30, [(0, .ref ac), (1, .int (nI p)), (2, .int 0)], [], M)) (S2 := (19, [(0, .ref ac), (1, .int (nI p)), (2, .int 0)], [], M)) rfl rfl rfl (fun c_16 => ?_) (fun c_16 => ?_)
  · have c_16 : (nI (tg f E (by2 f p))) = 1 := of_decide_eq_true c_16
    have n_16 : tg f E (by2 f p) = 1 := (eq_nI (p := tg f E (by2 f p)) (n := 1) (Nat.lt_trans (tg_lt _ _ _) (by decide)) (by decide)).mp c_16
    refine ps_st (S' := (31, [(0, .ref ac), (1, .int (nI p)), (2, .int 0)], [.int 0], M)) rfl rfl rfl ?_
    refine ps_if (S1 := (36, [(0, .ref ac), (1, .int (nI p)), (2, .int 0)], [], M)) (S2 := (34, [(0, .ref ac), (1, .int (nI p)), (2, .int 0)], [], M)) rfl rfl rfl (fun c_31 => ?_) (fun c_31 => ?_)
    · exact absurd (of_decide_eq_true c_31) (by decide)
    refine ps_st (S' := (35, [(0, .ref ac), (1, .int (nI p)), (2, .int 0)], [.int 1], M)) rfl rfl rfl ?_
    exact ps_ret rfl rfl (Or.inr ⟨by omega, rfl, h_vd, hF⟩)
  · have c_16 : ¬ ((nI (tg f E (by2 f p))) = 1) := of_decide_eq_false c_16
    have n_16 : ¬ (tg f E (by2 f p) = 1) := fun h9 => c_16 ((eq_nI (p := tg f E (by2 f p)) (n := 1) (Nat.lt_trans (tg_lt _ _ _) (by decide)) (by decide)).mpr h9)
    refine ps_st (S' := (20, [(0, .ref ac), (1, .int (nI p)), (2, .int 0)], [.ref ac], M)) rfl rfl rfl ?_
    refine ps_get (S' := (23, [(0, .ref ac), (1, .int (nI p)), (2, .int 0)], [.ref vd], M)) rfl h_ac rfl rfl ?_
    refine ps_st (S' := (25, [(0, .ref ac), (1, .int (nI p)), (2, .int 0)], [.int 28, .ref vd], M)) rfl rfl rfl ?_
    refine ps_st (S' := (26, [(0, .ref ac), (1, .int (nI p)), (2, .int 0)], [.int (nI p), .int 28, .ref vd], M)) rfl rfl rfl ?_
    refine pl_call (a := [.ref vd, .int 28, .int (nI p)]) (rest := []) rfl rfl rfl (dk_wrong (vd := vd) (ru := ru) (wa := wa) (x1 := 28) (x2 := (nI p)) h_vd) (fun v7 M8 q9 => ?_)
    obtain ⟨rfl, h10, f11⟩ := q9
    have h13 := (f11.1 ac (nin1 (ob_ne h_ac h_vd (by decide)))).trans h_ac
    have h14 := (f11.1 b (nin1 (ob_ne h_b h_vd (by decide)))).trans h_b
    have h15 := (f11.1 da (nin1 (Ne.symm (ob_ar h_vd h_da)))).trans h_da
    have hF16 := hF.tr f11 (by simp)
    have hV17 := hV.keep f11.gm (n7c h_vd (by decide) (n7nil))
    show pl _ _ _ (29, [(0, .ref ac), (1, .int (nI p)), (2, .int 0)], [.int 0], M8) _
    exact ps_ret rfl rfl (Or.inl ⟨by omega, rfl, h10, hF16⟩)
set_option maxHeartbeats 1000000 in
theorem dk_bitCountA {g : xe_G} {M : mi_H} {y : Int32}   : pt (mT g) 257 [.int y] M (fun v M' => (∃ (x : Int32), v = some (.int x) ∧ M = M')) := by
  refine pt_in (b := mb_257 g) rfl (fun kf => ?_)
  show pl (mT g) kf (mb_257 g).2 (0, [(0, .int y)], [], M) _
  refine ps_st (S' := (1, [(0, .int y)], [.int y], M)) rfl rfl rfl ?_
  refine ps_st (S' := (2, [(0, .int y)], [.int y, .int y], M)) rfl rfl rfl ?_
  refine ps_st (S' := (3, [(0, .int y)], [.int 1, .int y, .int y], M)) rfl rfl rfl ?_
  refine ps_st (S' := (4, [(0, .int y)], [.int ((y.toUInt32 >>> ((1 : Int32).toUInt32 &&& Int32.toUInt32 31)).toInt32), .int y], M)) rfl rfl rfl ?_
  refine ps_st (S' := (7, [(0, .int y)], [.int 1431655765, .int ((y.toUInt32 >>> ((1 : Int32).toUInt32 &&& Int32.toUInt32 31)).toInt32), .int y], M)) rfl rfl rfl ?_
  refine ps_st (S' := (8, [(0, .int y)], [.int (((y.toUInt32 >>> ((1 : Int32).toUInt32 &&& Int32.toUInt32 31)).toInt32) &&& 1431655765), .int y], M)) rfl rfl rfl ?_
  refine ps_st (S' := (9, [(0, .int y)], [.int (y - (((y.toUInt32 >>> ((1 : Int32).toUInt32 &&& Int32.toUInt32 31)).toInt32) &&& 1431655765))], M)) rfl rfl rfl ?_
  refine ps_st (S' := (10, [(0, .int (y - (((y.toUInt32 >>> ((1 : Int32).toUInt32 &&& Int32.toUInt32 31)).toInt32) &&& 1431655765)))], [], M)) rfl rfl rfl ?_
  refine ps_st (S' := (11, [(0, .int (y - (((y.toUInt32 >>> ((1 : Int32).toUInt32 &&& Int32.toUInt32 31)).toInt32) &&& 1431655765)))], [.int (y - (((y.toUInt32 >>> ((1 : Int32).toUInt32 &&& Int32.toUInt32 31)).toInt32) &&& 1431655765))], M)) rfl rfl rfl ?_
  refine ps_st (S' := (14, [(0, .int (y - (((y.toUInt32 >>> ((1 : Int32).toUInt32 &&& Int32.toUInt32 31)).toInt32) &&& 1431655765)))], [.int 858993459, .int (y - (((y.toUInt32 >>> ((1 : Int32).toUInt32 &&& Int32.toUInt32 31)).toInt32) &&& 1431655765))], M)) rfl rfl rfl ?_
  refine ps_st (S' := (15, [(0, .int (y - (((y.toUInt32 >>> ((1 : Int32).toUInt32 &&& Int32.toUInt32 31)).toInt32) &&& 1431655765)))], [.int ((y - (((y.toUInt32 >>> ((1 : Int32).toUInt32 &&& Int32.toUInt32 31)).toInt32) &&& 1431655765)) &&& 858993459)], M)) rfl rfl rfl ?_
  refine ps_st (S' := (16, [(0, .int (y - (((y.toUInt32 >>> ((1 : Int32).toUInt32 &&& Int32.toUInt32 31)).toInt32) &&& 1431655765)))], [.int (y - (((y.toUInt32 >>> ((1 : Int32).toUInt32 &&& Int32.toUInt32 31)).toInt32) &&& 1431655765)), .int ((y - (((y.toUInt32 >>> ((1 : Int32).toUInt32 &&& Int32.toUInt32 31)).toInt32) &&& 1431655765)) &&& 858993459)], M)) rfl rfl rfl ?_
  refine ps_st (S' := (17, [(0, .int (y - (((y.toUInt32 >>> ((1 : Int32).toUInt32 &&& Int32.toUInt32 31)).toInt32) &&& 1431655765)))], [.int 2, .int (y - (((y.toUInt32 >>> ((1 : Int32).toUInt32 &&& Int32.toUInt32 31)).toInt32) &&& 1431655765)), .int ((y - (((y.toUInt32 >>> ((1 : Int32).toUInt32 &&& Int32.toUInt32 31)).toInt32) &&& 1431655765)) &&& 858993459)], M)) rfl rfl rfl ?_
  refine ps_st (S' := (18, [(0, .int (y - (((y.toUInt32 >>> ((1 : Int32).toUInt32 &&& Int32.toUInt32 31)).toInt32) &&& 1431655765)))], [.int (((y - (((y.toUInt32 >>> ((1 : Int32).toUInt32 &&& Int32.toUInt32 31)).toInt32) &&& 1431655765)).toUInt32 >>> ((2 : Int32).toUInt32 &&& Int32.toUInt32 31)).toInt32), .int ((y - (((y.toUInt32 >>> ((1 : Int32).toUInt32 &&& Int32.toUInt32 31)).toInt32) &&& 1431655765)) &&& 858993459)], M)) rfl rfl rfl ?_
  refine ps_st (S' := (21, [(0, .int (y - (((y.toUInt32 >>> ((1 : Int32).toUInt32 &&& Int32.toUInt32 31)).toInt32) &&& 1431655765)))], [.int 858993459, .int (((y - (((y.toUInt32 >>> ((1 : Int32).toUInt32 &&& Int32.toUInt32 31)).toInt32) &&& 1431655765)).toUInt32 >>> ((2 : Int32).toUInt32 &&& Int32.toUInt32 31)).toInt32), .int ((y - (((y.toUInt32 >>> ((1 : Int32).toUInt32 &&& Int32.toUInt32 31)).toInt32) &&& 1431655765)) &&& 858993459)], M)) rfl rfl rfl ?_
  refine ps_st (S' := (22, [(0, .int (y - (((y.toUInt32 >>> ((1 : Int32).toUInt32 &&& Int32.toUInt32 31)).toInt32) &&& 1431655765)))], [.int ((((y - (((y.toUInt32 >>> ((1 : Int32).toUInt32 &&& Int32.toUInt32 31)).toInt32) &&& 1431655765)).toUInt32 >>> ((2 : Int32).toUInt32 &&& Int32.toUInt32 31)).toInt32) &&& 858993459), .int ((y - (((y.toUInt32 >>> ((1 : Int32).toUInt32 &&& Int32.toUInt32 31)).toInt32) &&& 1431655765)) &&& 858993459)], M)) rfl rfl rfl ?_
  refine ps_st (S' := (23, [(0, .int (y - (((y.toUInt32 >>> ((1 : Int32).toUInt32 &&& Int32.toUInt32 31)).toInt32) &&& 1431655765)))], [.int (((y - (((y.toUInt32 >>> ((1 : Int32).toUInt32 &&& Int32.toUInt32 31)).toInt32) &&& 1431655765)) &&& 858993459) + ((((y - (((y.toUInt32 >>> ((1 : Int32).toUInt32 &&& Int32.toUInt32 31)).toInt32) &&& 1431655765)).toUInt32 >>> ((2 : Int32).toUInt32 &&& Int32.toUInt32 31)).toInt32) &&& 858993459))], M)) rfl rfl rfl ?_
  refine ps_st (S' := (24, [(0, .int (((y - (((y.toUInt32 >>> ((1 : Int32).toUInt32 &&& Int32.toUInt32 31)).toInt32) &&& 1431655765)) &&& 858993459) + ((((y - (((y.toUInt32 >>> ((1 : Int32).toUInt32 &&& Int32.toUInt32 31)).toInt32) &&& 1431655765)).toUInt32 >>> ((2 : Int32).toUInt32 &&& Int32.toUInt32 31)).toInt32) &&& 858993459)))], [], M)) rfl rfl rfl ?_
  refine ps_st (S' := (25, [(0, .int (((y - (((y.toUInt32 >>> ((1 : Int32).toUInt32 &&& Int32.toUInt32 31)).toInt32) &&& 1431655765)) &&& 858993459) + ((((y - (((y.toUInt32 >>> ((1 : Int32).toUInt32 &&& Int32.toUInt32 31)).toInt32) &&& 1431655765)).toUInt32 >>> ((2 : Int32).toUInt32 &&& Int32.toUInt32 31)).toInt32) &&& 858993459)))], [.int (((y - (((y.toUInt32 >>> ((1 : Int32).toUInt32 &&& Int32.toUInt32 31)).toInt32) &&& 1431655765)) &&& 858993459) + ((((y - (((y.toUInt32 >>> ((1 : Int32).toUInt32 &&& Int32.toUInt32 31)).toInt32) &&& 1431655765)).toUInt32 >>> ((2 : Int32).toUInt32 &&& Int32.toUInt32 31)).toInt32) &&& 858993459))], M)) rfl rfl rfl ?_
  refine ps_st (S' := (26, [(0, .int (((y - (((y.toUInt32 >>> ((1 : Int32).toUInt32 &&& Int32.toUInt32 31)).toInt32) &&& 1431655765)) &&& 858993459) + ((((y - (((y.toUInt32 >>> ((1 : Int32).toUInt32 &&& Int32.toUInt32 31)).toInt32) &&& 1431655765)).toUInt32 >>> ((2 : Int32).toUInt32 &&& Int32.toUInt32 31)).toInt32) &&& 858993459)))], [.int (((y - (((y.toUInt32 >>> ((1 : Int32).toUInt32 &&& Int32.toUInt32 31)).toInt32) &&& 1431655765)) &&& 858993459) + ((((y - (((y.toUInt32 >>> ((1 : Int32).toUInt32 &&& Int32.toUInt32 31)).toInt32) &&& 1431655765)).toUInt32 >>> ((2 : Int32).toUInt32 &&& Int32.toUInt32 31)).toInt32) &&& 858993459)), .int (((y - (((y.toUInt32 >>> ((1 : Int32).toUInt32 &&& Int32.toUInt32 31)).toInt32) &&& 1431655765)) &&& 858993459) + ((((y - (((y.toUInt32 >>> ((1 : Int32).toUInt32 &&& Int32.toUInt32 31)).toInt32) &&& 1431655765)).toUInt32 >>> ((2 : Int32).toUInt32 &&& Int32.toUInt32 31)).toInt32) &&& 858993459))], M)) rfl rfl rfl ?_
  refine ps_st (S' := (27, [(0, .int (((y - (((y.toUInt32 >>> ((1 : Int32).toUInt32 &&& Int32.toUInt32 31)).toInt32) &&& 1431655765)) &&& 858993459) + ((((y - (((y.toUInt32 >>> ((1 : Int32).toUInt32 &&& Int32.toUInt32 31)).toInt32) &&& 1431655765)).toUInt32 >>> ((2 : Int32).toUInt32 &&& Int32.toUInt32 31)).toInt32) &&& 858993459)))], [.int 4, .int (((y - (((y.toUInt32 >>> ((1 : Int32).toUInt32 &&& Int32.toUInt32 31)).toInt32) &&& 1431655765)) &&& 858993459) + ((((y - (((y.toUInt32 >>> ((1 : Int32).toUInt32 &&& Int32.toUInt32 31)).toInt32) &&& 1431655765)).toUInt32 >>> ((2 : Int32).toUInt32 &&& Int32.toUInt32 31)).toInt32) &&& 858993459)), .int (((y - (((y.toUInt32 >>> ((1 : Int32).toUInt32 &&& Int32.toUInt32 31)).toInt32) &&& 1431655765)) &&& 858993459) + ((((y - (((y.toUInt32 >>> ((1 : Int32).toUInt32 &&& Int32.toUInt32 31)).toInt32) &&& 1431655765)).toUInt32 >>> ((2 : Int32).toUInt32 &&& Int32.toUInt32 31)).toInt32) &&& 858993459))], M)) rfl rfl rfl ?_
  refine ps_st (S' := (28, [(0, .int (((y - (((y.toUInt32 >>> ((1 : Int32).toUInt32 &&& Int32.toUInt32 31)).toInt32) &&& 1431655765)) &&& 858993459) + ((((y - (((y.toUInt32 >>> ((1 : Int32).toUInt32 &&& Int32.toUInt32 31)).toInt32) &&& 1431655765)).toUInt32 >>> ((2 : Int32).toUInt32 &&& Int32.toUInt32 31)).toInt32) &&& 858993459)))], [.int (((((y - (((y.toUInt32 >>> ((1 : Int32).toUInt32 &&& Int32.toUInt32 31)).toInt32) &&& 1431655765)) &&& 858993459) + ((((y - (((y.toUInt32 >>> ((1 : Int32).toUInt32 &&& Int32.toUInt32 31)).toInt32) &&& 1431655765)).toUInt32 >>> ((2 : Int32).toUInt32 &&& Int32.toUInt32 31)).toInt32) &&& 858993459)).toUInt32 >>> ((4 : Int32).toUInt32 &&& Int32.toUInt32 31)).toInt32), .int (((y - (((y.toUInt32 >>> ((1 : Int32).toUInt32 &&& Int32.toUInt32 31)).toInt32) &&& 1431655765)) &&& 858993459) + ((((y - (((y.toUInt32 >>> ((1 : Int32).toUInt32 &&& Int32.toUInt32 31)).toInt32) &&& 1431655765)).toUInt32 >>> ((2 : Int32).toUInt32 &&& Int32.toUInt32 31)).toInt32) &&& 858993459))], M)) rfl rfl rfl ?_
  refine ps_st (S' := (29, [(0, .int (((y - (((y.toUInt32 >>> ((1 : Int32).toUInt32 &&& Int32.toUInt32 31)).toInt32) &&& 1431655765)) &&& 858993459) + ((((y - (((y.toUInt32 >>> ((1 : Int32).toUInt32 &&& Int32.toUInt32 31)).toInt32) &&& 1431655765)).toUInt32 >>> ((2 : Int32).toUInt32 &&& Int32.toUInt32 31)).toInt32) &&& 858993459)))], [.int ((((y - (((y.toUInt32 >>> ((1 : Int32).toUInt32 &&& Int32.toUInt32 31)).toInt32) &&& 1431655765)) &&& 858993459) + ((((y - (((y.toUInt32 >>> ((1 : Int32).toUInt32 &&& Int32.toUInt32 31)).toInt32) &&& 1431655765)).toUInt32 >>> ((2 : Int32).toUInt32 &&& Int32.toUInt32 31)).toInt32) &&& 858993459)) + (((((y - (((y.toUInt32 >>> ((1 : Int32).toUInt32 &&& Int32.toUInt32 31)).toInt32) &&& 1431655765)) &&& 858993459) + ((((y - (((y.toUInt32 >>> ((1 : Int32).toUInt32 &&& Int32.toUInt32 31)).toInt32) &&& 1431655765)).toUInt32 >>> ((2 : Int32).toUInt32 &&& Int32.toUInt32 31)).toInt32) &&& 858993459)).toUInt32 >>> ((4 : Int32).toUInt32 &&& Int32.toUInt32 31)).toInt32))], M)) rfl rfl rfl ?_
  refine ps_st (S' := (32, [(0, .int (((y - (((y.toUInt32 >>> ((1 : Int32).toUInt32 &&& Int32.toUInt32 31)).toInt32) &&& 1431655765)) &&& 858993459) + ((((y - (((y.toUInt32 >>> ((1 : Int32).toUInt32 &&& Int32.toUInt32 31)).toInt32) &&& 1431655765)).toUInt32 >>> ((2 : Int32).toUInt32 &&& Int32.toUInt32 31)).toInt32) &&& 858993459)))], [.int 252645135, .int ((((y - (((y.toUInt32 >>> ((1 : Int32).toUInt32 &&& Int32.toUInt32 31)).toInt32) &&& 1431655765)) &&& 858993459) + ((((y - (((y.toUInt32 >>> ((1 : Int32).toUInt32 &&& Int32.toUInt32 31)).toInt32) &&& 1431655765)).toUInt32 >>> ((2 : Int32).toUInt32 &&& Int32.toUInt32 31)).toInt32) &&& 858993459)) + (((((y - (((y.toUInt32 >>> ((1 : Int32).toUInt32 &&& Int32.toUInt32 31)).toInt32) &&& 1431655765)) &&& 858993459) + ((((y - (((y.toUInt32 >>> ((1 : Int32).toUInt32 &&& Int32.toUInt32 31)).toInt32) &&& 1431655765)).toUInt32 >>> ((2 : Int32).toUInt32 &&& Int32.toUInt32 31)).toInt32) &&& 858993459)).toUInt32 >>> ((4 : Int32).toUInt32 &&& Int32.toUInt32 31)).toInt32))], M)) rfl rfl rfl ?_
  refine ps_st (S' := (33, [(0, .int (((y - (((y.toUInt32 >>> ((1 : Int32).toUInt32 &&& Int32.toUInt32 31)).toInt32) &&& 1431655765)) &&& 858993459) + ((((y - (((y.toUInt32 >>> ((1 : Int32).toUInt32 &&& Int32.toUInt32 31)).toInt32) &&& 1431655765)).toUInt32 >>> ((2 : Int32).toUInt32 &&& Int32.toUInt32 31)).toInt32) &&& 858993459)))], [.int (((((y - (((y.toUInt32 >>> ((1 : Int32).toUInt32 &&& Int32.toUInt32 31)).toInt32) &&& 1431655765)) &&& 858993459) + ((((y - (((y.toUInt32 >>> ((1 : Int32).toUInt32 &&& Int32.toUInt32 31)).toInt32) &&& 1431655765)).toUInt32 >>> ((2 : Int32).toUInt32 &&& Int32.toUInt32 31)).toInt32) &&& 858993459)) + (((((y - (((y.toUInt32 >>> ((1 : Int32).toUInt32 &&& Int32.toUInt32 31)).toInt32) &&& 1431655765)) &&& 858993459) + ((((y - (((y.toUInt32 >>> ((1 : Int32).toUInt32 &&& Int32.toUInt32 31)).toInt32) &&& 1431655765)).toUInt32 >>> ((2 : Int32).toUInt32 &&& Int32.toUInt32 31)).toInt32) &&& 858993459)).toUInt32 >>> ((4 : Int32).toUInt32 &&& Int32.toUInt32 31)).toInt32)) &&& 252645135)], M)) rfl rfl rfl ?_
  refine ps_st (S' := (34, [(0, .int (((((y - (((y.toUInt32 >>> ((1 : Int32).toUInt32 &&& Int32.toUInt32 31)).toInt32) &&& 1431655765)) &&& 858993459) + ((((y - (((y.toUInt32 >>> ((1 : Int32).toUInt32 &&& Int32.toUInt32 31)).toInt32) &&& 1431655765)).toUInt32 >>> ((2 : Int32).toUInt32 &&& Int32.toUInt32 31)).toInt32) &&& 858993459)) + (((((y - (((y.toUInt32 >>> ((1 : Int32).toUInt32 &&& Int32.toUInt32 31)).toInt32) &&& 1431655765)) &&& 858993459) + ((((y - (((y.toUInt32 >>> ((1 : Int32).toUInt32 &&& Int32.toUInt32 31)).toInt32) &&& 1431655765)).toUInt32 >>> ((2 : Int32).toUInt32 &&& Int32.toUInt32 31)).toInt32) &&& 858993459)).toUInt32 >>> ((4 : Int32).toUInt32 &&& Int32.toUInt32 31)).toInt32)) &&& 252645135))], [], M)) rfl rfl rfl ?_
  refine ps_st (S' := (35, [(0, .int (((((y - (((y.toUInt32 >>> ((1 : Int32).toUInt32 &&& Int32.toUInt32 31)).toInt32) &&& 1431655765)) &&& 858993459) + ((((y - (((y.toUInt32 >>> ((1 : Int32).toUInt32 &&& Int32.toUInt32 31)).toInt32) &&& 1431655765)).toUInt32 >>> ((2 : Int32).toUInt32 &&& Int32.toUInt32 31)).toInt32) &&& 858993459)) + (((((y - (((y.toUInt32 >>> ((1 : Int32).toUInt32 &&& Int32.toUInt32 31)).toInt32) &&& 1431655765)) &&& 858993459) + ((((y - (((y.toUInt32 >>> ((1 : Int32).toUInt32 &&& Int32.toUInt32 31)).toInt32) &&& 1431655765)).toUInt32 >>> ((2 : Int32).toUInt32 &&& Int32.toUInt32 31)).toInt32) &&& 858993459)).toUInt32 >>> ((4 : Int32).toUInt32 &&& Int32.toUInt32 31)).toInt32)) &&& 252645135))], [.int (((((y - (((y.toUInt32 >>> ((1 : Int32).toUInt32 &&& Int32.toUInt32 31)).toInt32) &&& 1431655765)) &&& 858993459) + ((((y - (((y.toUInt32 >>> ((1 : Int32).toUInt32 &&& Int32.toUInt32 31)).toInt32) &&& 1431655765)).toUInt32 >>> ((2 : Int32).toUInt32 &&& Int32.toUInt32 31)).toInt32) &&& 858993459)) + (((((y - (((y.toUInt32 >>> ((1 : Int32).toUInt32 &&& Int32.toUInt32 31)).toInt32) &&& 1431655765)) &&& 858993459) + ((((y - (((y.toUInt32 >>> ((1 : Int32).toUInt32 &&& Int32.toUInt32 31)).toInt32) &&& 1431655765)).toUInt32 >>> ((2 : Int32).toUInt32 &&& Int32.toUInt32 31)).toInt32) &&& 858993459)).toUInt32 >>> ((4 : Int32).toUInt32 &&& Int32.toUInt32 31)).toInt32)) &&& 252645135)], M)) rfl rfl rfl ?_
  refine ps_st (S' := (36, [(0, .int (((((y - (((y.toUInt32 >>> ((1 : Int32).toUInt32 &&& Int32.toUInt32 31)).toInt32) &&& 1431655765)) &&& 858993459) + ((((y - (((y.toUInt32 >>> ((1 : Int32).toUInt32 &&& Int32.toUInt32 31)).toInt32) &&& 1431655765)).toUInt32 >>> ((2 : Int32).toUInt32 &&& Int32.toUInt32 31)).toInt32) &&& 858993459)) + (((((y - (((y.toUInt32 >>> ((1 : Int32).toUInt32 &&& Int32.toUInt32 31)).toInt32) &&& 1431655765)) &&& 858993459) + ((((y - (((y.toUInt32 >>> ((1 : Int32).toUInt32 &&& Int32.toUInt32 31)).toInt32) &&& 1431655765)).toUInt32 >>> ((2 : Int32).toUInt32 &&& Int32.toUInt32 31)).toInt32) &&& 858993459)).toUInt32 >>> ((4 : Int32).toUInt32 &&& Int32.toUInt32 31)).toInt32)) &&& 252645135))], [.int (((((y - (((y.toUInt32 >>> ((1 : Int32).toUInt32 &&& Int32.toUInt32 31)).toInt32) &&& 1431655765)) &&& 858993459) + ((((y - (((y.toUInt32 >>> ((1 : Int32).toUInt32 &&& Int32.toUInt32 31)).toInt32) &&& 1431655765)).toUInt32 >>> ((2 : Int32).toUInt32 &&& Int32.toUInt32 31)).toInt32) &&& 858993459)) + (((((y - (((y.toUInt32 >>> ((1 : Int32).toUInt32 &&& Int32.toUInt32 31)).toInt32) &&& 1431655765)) &&& 858993459) + ((((y - (((y.toUInt32 >>> ((1 : Int32).toUInt32 &&& Int32.toUInt32 31)).toInt32) &&& 1431655765)).toUInt32 >>> ((2 : Int32).toUInt32 &&& Int32.toUInt32 31)).toInt32) &&& 858993459)).toUInt32 >>> ((4 : Int32).toUInt32 &&& Int32.toUInt32 31)).toInt32)) &&& 252645135), .int (((((y - (((y.toUInt32 >>> ((1 : Int32).toUInt32 &&& Int32.toUInt32 31)).toInt32) &&& 1431655765)) &&& 858993459) + ((((y - (((y.toUInt32 >>> ((1 : Int32).toUInt32 &&& Int32.toUInt32 31)).toInt32) &&& 1431655765)).toUInt32 >>> ((2 : Int32).toUInt32 &&& Int32.toUInt32 31)).toInt32) &&& 858993459)) + (((((y - (((y.toUInt32 >>> ((1 : Int32).toUInt32 &&& Int32.toUInt32 31)).toInt32) &&& 1431655765)) &&& 858993459) + ((((y - (((y.toUInt32 >>> ((1 : Int32).toUInt32 &&& Int32.toUInt32 31)).toInt32) &&& 1431655765)).toUInt32 >>> ((2 : Int32).toUInt32 &&& Int32.toUInt32 31)).toInt32) &&& 858993459)).toUInt32 >>> ((4 : Int32).toUInt32 &&& Int32.toUInt32 31)).toInt32)) &&& 252645135)], M)) rfl rfl rfl ?_
  refine ps_st (S' := (38, [(0, .int (((((y - (((y.toUInt32 >>> ((1 : Int32).toUInt32 &&& Int32.toUInt32 31)).toInt32) &&& 1431655765)) &&& 858993459) + ((((y - (((y.toUInt32 >>> ((1 : Int32).toUInt32 &&& Int32.toUInt32 31)).toInt32) &&& 1431655765)).toUInt32 >>> ((2 : Int32).toUInt32 &&& Int32.toUInt32 31)).toInt32) &&& 858993459)) + (((((y - (((y.toUInt32 >>> ((1 : Int32).toUInt32 &&& Int32.toUInt32 31)).toInt32) &&& 1431655765)) &&& 858993459) + ((((y - (((y.toUInt32 >>> ((1 : Int32).toUInt32 &&& Int32.toUInt32 31)).toInt32) &&& 1431655765)).toUInt32 >>> ((2 : Int32).toUInt32 &&& Int32.toUInt32 31)).toInt32) &&& 858993459)).toUInt32 >>> ((4 : Int32).toUInt32 &&& Int32.toUInt32 31)).toInt32)) &&& 252645135))], [.int 8, .int (((((y - (((y.toUInt32 >>> ((1 : Int32).toUInt32 &&& Int32.toUInt32 31)).toInt32) &&& 1431655765)) &&& 858993459) + ((((y - (((y.toUInt32 >>> ((1 : Int32).toUInt32 &&& Int32.toUInt32 31)).toInt32) &&& 1431655765)).toUInt32 >>> ((2 : Int32).toUInt32 &&& Int32.toUInt32 31)).toInt32) &&& 858993459)) + (((((y - (((y.toUInt32 >>> ((1 : Int32).toUInt32 &&& Int32.toUInt32 31)).toInt32) &&& 1431655765)) &&& 858993459) + ((((y - (((y.toUInt32 >>> ((1 : Int32).toUInt32 &&& Int32.toUInt32 31)).toInt32) &&& 1431655765)).toUInt32 >>> ((2 : Int32).toUInt32 &&& Int32.toUInt32 31)).toInt32) &&& 858993459)).toUInt32 >>> ((4 : Int32).toUInt32 &&& Int32.toUInt32 31)).toInt32)) &&& 252645135), .int (((((y - (((y.toUInt32 >>> ((1 : Int32).toUInt32 &&& Int32.toUInt32 31)).toInt32) &&& 1431655765)) &&& 858993459) + ((((y - (((y.toUInt32 >>> ((1 : Int32).toUInt32 &&& Int32.toUInt32 31)).toInt32) &&& 1431655765)).toUInt32 >>> ((2 : Int32).toUInt32 &&& Int32.toUInt32 31)).toInt32) &&& 858993459)) + (((((y - (((y.toUInt32 >>> ((1 : Int32).toUInt32 &&& Int32.toUInt32 31)).toInt32) &&& 1431655765)) &&& 858993459) + ((((y - (((y.toUInt32 >>> ((1 : Int32).toUInt32 &&& Int32.toUInt32 31)).toInt32) &&& 1431655765)).toUInt32 >>> ((2 : Int32).toUInt32 &&& Int32.toUInt32 31)).toInt32) &&& 858993459)).toUInt32 >>> ((4 : Int32).toUInt32 &&& Int32.toUInt32 31)).toInt32)) &&& 252645135)], M)) rfl rfl rfl ?_
  refine ps_st (S' := (39, [(0, .int (((((y - (((y.toUInt32 >>> ((1 : Int32).toUInt32 &&& Int32.toUInt32 31)).toInt32) &&& 1431655765)) &&& 858993459) + ((((y - (((y.toUInt32 >>> ((1 : Int32).toUInt32 &&& Int32.toUInt32 31)).toInt32) &&& 1431655765)).toUInt32 >>> ((2 : Int32).toUInt32 &&& Int32.toUInt32 31)).toInt32) &&& 858993459)) + (((((y - (((y.toUInt32 >>> ((1 : Int32).toUInt32 &&& Int32.toUInt32 31)).toInt32) &&& 1431655765)) &&& 858993459) + ((((y - (((y.toUInt32 >>> ((1 : Int32).toUInt32 &&& Int32.toUInt32 31)).toInt32) &&& 1431655765)).toUInt32 >>> ((2 : Int32).toUInt32 &&& Int32.toUInt32 31)).toInt32) &&& 858993459)).toUInt32 >>> ((4 : Int32).toUInt32 &&& Int32.toUInt32 31)).toInt32)) &&& 252645135))], [.int (((((((y - (((y.toUInt32 >>> ((1 : Int32).toUInt32 &&& Int32.toUInt32 31)).toInt32) &&& 1431655765)) &&& 858993459) + ((((y - (((y.toUInt32 >>> ((1 : Int32).toUInt32 &&& Int32.toUInt32 31)).toInt32) &&& 1431655765)).toUInt32 >>> ((2 : Int32).toUInt32 &&& Int32.toUInt32 31)).toInt32) &&& 858993459)) + (((((y - (((y.toUInt32 >>> ((1 : Int32).toUInt32 &&& Int32.toUInt32 31)).toInt32) &&& 1431655765)) &&& 858993459) + ((((y - (((y.toUInt32 >>> ((1 : Int32).toUInt32 &&& Int32.toUInt32 31)).toInt32) &&& 1431655765)).toUInt32 >>> ((2 : Int32).toUInt32 &&& Int32.toUInt32 31)).toInt32) &&& 858993459)).toUInt32 >>> ((4 : Int32).toUInt32 &&& Int32.toUInt32 31)).toInt32)) &&& 252645135).toUInt32 >>> ((8 : Int32).toUInt32 &&& Int32.toUInt32 31)).toInt32), .int (((((y - (((y.toUInt32 >>> ((1 : Int32).toUInt32 &&& Int32.toUInt32 31)).toInt32) &&& 1431655765)) &&& 858993459) + ((((y - (((y.toUInt32 >>> ((1 : Int32).toUInt32 &&& Int32.toUInt32 31)).toInt32) &&& 1431655765)).toUInt32 >>> ((2 : Int32).toUInt32 &&& Int32.toUInt32 31)).toInt32) &&& 858993459)) + (((((y - (((y.toUInt32 >>> ((1 : Int32).toUInt32 &&& Int32.toUInt32 31)).toInt32) &&& 1431655765)) &&& 858993459) + ((((y - (((y.toUInt32 >>> ((1 : Int32).toUInt32 &&& Int32.toUInt32 31)).toInt32) &&& 1431655765)).toUInt32 >>> ((2 : Int32).toUInt32 &&& Int32.toUInt32 31)).toInt32) &&& 858993459)).toUInt32 >>> ((4 : Int32).toUInt32 &&& Int32.toUInt32 31)).toInt32)) &&& 252645135)], M)) rfl rfl rfl ?_
  refine ps_st (S' := (40, [(0, .int (((((y - (((y.toUInt32 >>> ((1 : Int32).toUInt32 &&& Int32.toUInt32 31)).toInt32) &&& 1431655765)) &&& 858993459) + ((((y - (((y.toUInt32 >>> ((1 : Int32).toUInt32 &&& Int32.toUInt32 31)).toInt32) &&& 1431655765)).toUInt32 >>> ((2 : Int32).toUInt32 &&& Int32.toUInt32 31)).toInt32) &&& 858993459)) + (((((y - (((y.toUInt32 >>> ((1 : Int32).toUInt32 &&& Int32.toUInt32 31)).toInt32) &&& 1431655765)) &&& 858993459) + ((((y - (((y.toUInt32 >>> ((1 : Int32).toUInt32 &&& Int32.toUInt32 31)).toInt32) &&& 1431655765)).toUInt32 >>> ((2 : Int32).toUInt32 &&& Int32.toUInt32 31)).toInt32) &&& 858993459)).toUInt32 >>> ((4 : Int32).toUInt32 &&& Int32.toUInt32 31)).toInt32)) &&& 252645135))], [.int ((((((y - (((y.toUInt32 >>> ((1 : Int32).toUInt32 &&& Int32.toUInt32 31)).toInt32) &&& 1431655765)) &&& 858993459) + ((((y - (((y.toUInt32 >>> ((1 : Int32).toUInt32 &&& Int32.toUInt32 31)).toInt32) &&& 1431655765)).toUInt32 >>> ((2 : Int32).toUInt32 &&& Int32.toUInt32 31)).toInt32) &&& 858993459)) + (((((y - (((y.toUInt32 >>> ((1 : Int32).toUInt32 &&& Int32.toUInt32 31)).toInt32) &&& 1431655765)) &&& 858993459) + ((((y - (((y.toUInt32 >>> ((1 : Int32).toUInt32 &&& Int32.toUInt32 31)).toInt32) &&& 1431655765)).toUInt32 >>> ((2 : Int32).toUInt32 &&& Int32.toUInt32 31)).toInt32) &&& 858993459)).toUInt32 >>> ((4 : Int32).toUInt32 &&& Int32.toUInt32 31)).toInt32)) &&& 252645135) + (((((((y - (((y.toUInt32 >>> ((1 : Int32).toUInt32 &&& Int32.toUInt32 31)).toInt32) &&& 1431655765)) &&& 858993459) + ((((y - (((y.toUInt32 >>> ((1 : Int32).toUInt32 &&& Int32.toUInt32 31)).toInt32) &&& 1431655765)).toUInt32 >>> ((2 : Int32).toUInt32 &&& Int32.toUInt32 31)).toInt32) &&& 858993459)) + (((((y - (((y.toUInt32 >>> ((1 : Int32).toUInt32 &&& Int32.toUInt32 31)).toInt32) &&& 1431655765)) &&& 858993459) + ((((y - (((y.toUInt32 >>> ((1 : Int32).toUInt32 &&& Int32.toUInt32 31)).toInt32) &&& 1431655765)).toUInt32 >>> ((2 : Int32).toUInt32 &&& Int32.toUInt32 31)).toInt32) &&& 858993459)).toUInt32 >>> ((4 : Int32).toUInt32 &&& Int32.toUInt32 31)).toInt32)) &&& 252645135).toUInt32 >>> ((8 : Int32).toUInt32 &&& Int32.toUInt32 31)).toInt32))], M)) rfl rfl rfl ?_
  refine ps_st (S' := (41, [(0, .int ((((((y - (((y.toUInt32 >>> ((1 : Int32).toUInt32 &&& Int32.toUInt32 31)).toInt32) &&& 1431655765)) &&& 858993459) + ((((y - (((y.toUInt32 >>> ((1 : Int32).toUInt32 &&& Int32.toUInt32 31)).toInt32) &&& 1431655765)).toUInt32 >>> ((2 : Int32).toUInt32 &&& Int32.toUInt32 31)).toInt32) &&& 858993459)) + (((((y - (((y.toUInt32 >>> ((1 : Int32).toUInt32 &&& Int32.toUInt32 31)).toInt32) &&& 1431655765)) &&& 858993459) + ((((y - (((y.toUInt32 >>> ((1 : Int32).toUInt32 &&& Int32.toUInt32 31)).toInt32) &&& 1431655765)).toUInt32 >>> ((2 : Int32).toUInt32 &&& Int32.toUInt32 31)).toInt32) &&& 858993459)).toUInt32 >>> ((4 : Int32).toUInt32 &&& Int32.toUInt32 31)).toInt32)) &&& 252645135) + (((((((y - (((y.toUInt32 >>> ((1 : Int32).toUInt32 &&& Int32.toUInt32 31)).toInt32) &&& 1431655765)) &&& 858993459) + ((((y - (((y.toUInt32 >>> ((1 : Int32).toUInt32 &&& Int32.toUInt32 31)).toInt32) &&& 1431655765)).toUInt32 >>> ((2 : Int32).toUInt32 &&& Int32.toUInt32 31)).toInt32) &&& 858993459)) + (((((y - (((y.toUInt32 >>> ((1 : Int32).toUInt32 &&& Int32.toUInt32 31)).toInt32) &&& 1431655765)) &&& 858993459) + ((((y - (((y.toUInt32 >>> ((1 : Int32).toUInt32 &&& Int32.toUInt32 31)).toInt32) &&& 1431655765)).toUInt32 >>> ((2 : Int32).toUInt32 &&& Int32.toUInt32 31)).toInt32) &&& 858993459)).toUInt32 >>> ((4 : Int32).toUInt32 &&& Int32.toUInt32 31)).toInt32)) &&& 252645135).toUInt32 >>> ((8 : Int32).toUInt32 &&& Int32.toUInt32 31)).toInt32)))], [], M)) rfl rfl rfl ?_
  refine ps_st (S' := (42, [(0, .int ((((((y - (((y.toUInt32 >>> ((1 : Int32).toUInt32 &&& Int32.toUInt32 31)).toInt32) &&& 1431655765)) &&& 858993459) + ((((y - (((y.toUInt32 >>> ((1 : Int32).toUInt32 &&& Int32.toUInt32 31)).toInt32) &&& 1431655765)).toUInt32 >>> ((2 : Int32).toUInt32 &&& Int32.toUInt32 31)).toInt32) &&& 858993459)) + (((((y - (((y.toUInt32 >>> ((1 : Int32).toUInt32 &&& Int32.toUInt32 31)).toInt32) &&& 1431655765)) &&& 858993459) + ((((y - (((y.toUInt32 >>> ((1 : Int32).toUInt32 &&& Int32.toUInt32 31)).toInt32) &&& 1431655765)).toUInt32 >>> ((2 : Int32).toUInt32 &&& Int32.toUInt32 31)).toInt32) &&& 858993459)).toUInt32 >>> ((4 : Int32).toUInt32 &&& Int32.toUInt32 31)).toInt32)) &&& 252645135) + (((((((y - (((y.toUInt32 >>> ((1 : Int32).toUInt32 &&& Int32.toUInt32 31)).toInt32) &&& 1431655765)) &&& 858993459) + ((((y - (((y.toUInt32 >>> ((1 : Int32).toUInt32 &&& Int32.toUInt32 31)).toInt32) &&& 1431655765)).toUInt32 >>> ((2 : Int32).toUInt32 &&& Int32.toUInt32 31)).toInt32) &&& 858993459)) + (((((y - (((y.toUInt32 >>> ((1 : Int32).toUInt32 &&& Int32.toUInt32 31)).toInt32) &&& 1431655765)) &&& 858993459) + ((((y - (((y.toUInt32 >>> ((1 : Int32).toUInt32 &&& Int32.toUInt32 31)).toInt32) &&& 1431655765)).toUInt32 >>> ((2 : Int32).toUInt32 &&& Int32.toUInt32 31)).toInt32) &&& 858993459)).toUInt32 >>> ((4 : Int32).toUInt32 &&& Int32.toUInt32 31)).toInt32)) &&& 252645135).toUInt32 >>> ((8 : Int32).toUInt32 &&& Int32.toUInt32 31)).toInt32)))], [.int ((((((y - (((y.toUInt32 >>> ((1 : Int32).toUInt32 &&& Int32.toUInt32 31)).toInt32) &&& 1431655765)) &&& 858993459) + ((((y - (((y.toUInt32 >>> ((1 : Int32).toUInt32 &&& Int32.toUInt32 31)).toInt32) &&& 1431655765)).toUInt32 >>> ((2 : Int32).toUInt32 &&& Int32.toUInt32 31)).toInt32) &&& 858993459)) + (((((y - (((y.toUInt32 >>> ((1 : Int32).toUInt32 &&& Int32.toUInt32 31)).toInt32) &&& 1431655765)) &&& 858993459) + ((((y - (((y.toUInt32 >>> ((1 : Int32).toUInt32 &&& Int32.toUInt32 31)).toInt32) &&& 1431655765)).toUInt32 >>> ((2 : Int32).toUInt32 &&& Int32.toUInt32 31)).toInt32) &&& 858993459)).toUInt32 >>> ((4 : Int32).toUInt32 &&& Int32.toUInt32 31)).toInt32)) &&& 252645135) + (((((((y - (((y.toUInt32 >>> ((1 : Int32).toUInt32 &&& Int32.toUInt32 31)).toInt32) &&& 1431655765)) &&& 858993459) + ((((y - (((y.toUInt32 >>> ((1 : Int32).toUInt32 &&& Int32.toUInt32 31)).toInt32) &&& 1431655765)).toUInt32 >>> ((2 : Int32).toUInt32 &&& Int32.toUInt32 31)).toInt32) &&& 858993459)) + (((((y - (((y.toUInt32 >>> ((1 : Int32).toUInt32 &&& Int32.toUInt32 31)).toInt32) &&& 1431655765)) &&& 858993459) + ((((y - (((y.toUInt32 >>> ((1 : Int32).toUInt32 &&& Int32.toUInt32 31)).toInt32) &&& 1431655765)).toUInt32 >>> ((2 : Int32).toUInt32 &&& Int32.toUInt32 31)).toInt32) &&& 858993459)).toUInt32 >>> ((4 : Int32).toUInt32 &&& Int32.toUInt32 31)).toInt32)) &&& 252645135).toUInt32 >>> ((8 : Int32).toUInt32 &&& Int32.toUInt32 31)).toInt32))], M)) rfl rfl rfl ?_
  refine ps_st (S' := (43, [(0, .int ((((((y - (((y.toUInt32 >>> ((1 : Int32).toUInt32 &&& Int32.toUInt32 31)).toInt32) &&& 1431655765)) &&& 858993459) + ((((y - (((y.toUInt32 >>> ((1 : Int32).toUInt32 &&& Int32.toUInt32 31)).toInt32) &&& 1431655765)).toUInt32 >>> ((2 : Int32).toUInt32 &&& Int32.toUInt32 31)).toInt32) &&& 858993459)) + (((((y - (((y.toUInt32 >>> ((1 : Int32).toUInt32 &&& Int32.toUInt32 31)).toInt32) &&& 1431655765)) &&& 858993459) + ((((y - (((y.toUInt32 >>> ((1 : Int32).toUInt32 &&& Int32.toUInt32 31)).toInt32) &&& 1431655765)).toUInt32 >>> ((2 : Int32).toUInt32 &&& Int32.toUInt32 31)).toInt32) &&& 858993459)).toUInt32 >>> ((4 : Int32).toUInt32 &&& Int32.toUInt32 31)).toInt32)) &&& 252645135) + (((((((y - (((y.toUInt32 >>> ((1 : Int32).toUInt32 &&& Int32.toUInt32 31)).toInt32) &&& 1431655765)) &&& 858993459) + ((((y - (((y.toUInt32 >>> ((1 : Int32).toUInt32 &&& Int32.toUInt32 31)).toInt32) &&& 1431655765)).toUInt32 >>> ((2 : Int32).toUInt32 &&& Int32.toUInt32 31)).toInt32) &&& 858993459)) + (((((y - (((y.toUInt32 >>> ((1 : Int32).toUInt32 &&& Int32.toUInt32 31)).toInt32) &&& 1431655765)) &&& 858993459) + ((((y - (((y.toUInt32 >>> ((1 : Int32).toUInt32 &&& Int32.toUInt32 31)).toInt32) &&& 1431655765)).toUInt32 >>> ((2 : Int32).toUInt32 &&& Int32.toUInt32 31)).toInt32) &&& 858993459)).toUInt32 >>> ((4 : Int32).toUInt32 &&& Int32.toUInt32 31)).toInt32)) &&& 252645135).toUInt32 >>> ((8 : Int32).toUInt32 &&& Int32.toUInt32 31)).toInt32)))], [.int ((((((y - (((y.toUInt32 >>> ((1 : Int32).toUInt32 &&& Int32.toUInt32 31)).toInt32) &&& 1431655765)) &&& 858993459) + ((((y - (((y.toUInt32 >>> ((1 : Int32).toUInt32 &&& Int32.toUInt32 31)).toInt32) &&& 1431655765)).toUInt32 >>> ((2 : Int32).toUInt32 &&& Int32.toUInt32 31)).toInt32) &&& 858993459)) + (((((y - (((y.toUInt32 >>> ((1 : Int32).toUInt32 &&& Int32.toUInt32 31)).toInt32) &&& 1431655765)) &&& 858993459) + ((((y - (((y.toUInt32 >>> ((1 : Int32).toUInt32 &&& Int32.toUInt32 31)).toInt32) &&& 1431655765)).toUInt32 >>> ((2 : Int32).toUInt32 &&& Int32.toUInt32 31)).toInt32) &&& 858993459)).toUInt32 >>> ((4 : Int32).toUInt32 &&& Int32.toUInt32 31)).toInt32)) &&& 252645135) + (((((((y - (((y.toUInt32 >>> ((1 : Int32).toUInt32 &&& Int32.toUInt32 31)).toInt32) &&& 1431655765)) &&& 858993459) + ((((y - (((y.toUInt32 >>> ((1 : Int32).toUInt32 &&& Int32.toUInt32 31)).toInt32) &&& 1431655765)).toUInt32 >>> ((2 : Int32).toUInt32 &&& Int32.toUInt32 31)).toInt32) &&& 858993459)) + (((((y - (((y.toUInt32 >>> ((1 : Int32).toUInt32 &&& Int32.toUInt32 31)).toInt32) &&& 1431655765)) &&& 858993459) + ((((y - (((y.toUInt32 >>> ((1 : Int32).toUInt32 &&& Int32.toUInt32 31)).toInt32) &&& 1431655765)).toUInt32 >>> ((2 : Int32).toUInt32 &&& Int32.toUInt32 31)).toInt32) &&& 858993459)).toUInt32 >>> ((4 : Int32).toUInt32 &&& Int32.toUInt32 31)).toInt32)) &&& 252645135).toUInt32 >>> ((8 : Int32).toUInt32 &&& Int32.toUInt32 31)).toInt32)), .int ((((((y - (((y.toUInt32 >>> ((1 : Int32).toUInt32 &&& Int32.toUInt32 31)).toInt32) &&& 1431655765)) &&& 858993459) + ((((y - (((y.toUInt32 >>> ((1 : Int32).toUInt32 &&& Int32.toUInt32 31)).toInt32) &&& 1431655765)).toUInt32 >>> ((2 : Int32).toUInt32 &&& Int32.toUInt32 31)).toInt32) &&& 858993459)) + (((((y - (((y.toUInt32 >>> ((1 : Int32).toUInt32 &&& Int32.toUInt32 31)).toInt32) &&& 1431655765)) &&& 858993459) + ((((y - (((y.toUInt32 >>> ((1 : Int32).toUInt32 &&& Int32.toUInt32 31)).toInt32) &&& 1431655765)).toUInt32 >>> ((2 : Int32).toUInt32 &&& Int32.toUInt32 31)).toInt32) &&& 858993459)).toUInt32 >>> ((4 : Int32).toUInt32 &&& Int32.toUInt32 31)).toInt32)) &&& 252645135) + (((((((y - (((y.toUInt32 >>> ((1 : Int32).toUInt32 &&& Int32.toUInt32 31)).toInt32) &&& 1431655765)) &&& 858993459) + ((((y - (((y.toUInt32 >>> ((1 : Int32).toUInt32 &&& Int32.toUInt32 31)).toInt32) &&& 1431655765)).toUInt32 >>> ((2 : Int32).toUInt32 &&& Int32.toUInt32 31)).toInt32) &&& 858993459)) + (((((y - (((y.toUInt32 >>> ((1 : Int32).toUInt32 &&& Int32.toUInt32 31)).toInt32) &&& 1431655765)) &&& 858993459) + ((((y - (((y.toUInt32 >>> ((1 : Int32).toUInt32 &&& Int32.toUInt32 31)).toInt32) &&& 1431655765)).toUInt32 >>> ((2 : Int32).toUInt32 &&& Int32.toUInt32 31)).toInt32) &&& 858993459)).toUInt32 >>> ((4 : Int32).toUInt32 &&& Int32.toUInt32 31)).toInt32)) &&& 252645135).toUInt32 >>> ((8 : Int32).toUInt32 &&& Int32.toUInt32 31)).toInt32))], M)) rfl rfl rfl ?_
  refine ps_st (S' := (45, [(0, .int ((((((y - (((y.toUInt32 >>> ((1 : Int32).toUInt32 &&& Int32.toUInt32 31)).toInt32) &&& 1431655765)) &&& 858993459) + ((((y - (((y.toUInt32 >>> ((1 : Int32).toUInt32 &&& Int32.toUInt32 31)).toInt32) &&& 1431655765)).toUInt32 >>> ((2 : Int32).toUInt32 &&& Int32.toUInt32 31)).toInt32) &&& 858993459)) + (((((y - (((y.toUInt32 >>> ((1 : Int32).toUInt32 &&& Int32.toUInt32 31)).toInt32) &&& 1431655765)) &&& 858993459) + ((((y - (((y.toUInt32 >>> ((1 : Int32).toUInt32 &&& Int32.toUInt32 31)).toInt32) &&& 1431655765)).toUInt32 >>> ((2 : Int32).toUInt32 &&& Int32.toUInt32 31)).toInt32) &&& 858993459)).toUInt32 >>> ((4 : Int32).toUInt32 &&& Int32.toUInt32 31)).toInt32)) &&& 252645135) + (((((((y - (((y.toUInt32 >>> ((1 : Int32).toUInt32 &&& Int32.toUInt32 31)).toInt32) &&& 1431655765)) &&& 858993459) + ((((y - (((y.toUInt32 >>> ((1 : Int32).toUInt32 &&& Int32.toUInt32 31)).toInt32) &&& 1431655765)).toUInt32 >>> ((2 : Int32).toUInt32 &&& Int32.toUInt32 31)).toInt32) &&& 858993459)) + (((((y - (((y.toUInt32 >>> ((1 : Int32).toUInt32 &&& Int32.toUInt32 31)).toInt32) &&& 1431655765)) &&& 858993459) + ((((y - (((y.toUInt32 >>> ((1 : Int32).toUInt32 &&& Int32.toUInt32 31)).toInt32) &&& 1431655765)).toUInt32 >>> ((2 : Int32).toUInt32 &&& Int32.toUInt32 31)).toInt32) &&& 858993459)).toUInt32 >>> ((4 : Int32).toUInt32 &&& Int32.toUInt32 31)).toInt32)) &&& 252645135).toUInt32 >>> ((8 : Int32).toUInt32 &&& Int32.toUInt32 31)).toInt32)))], [.int 16, .int ((((((y - (((y.toUInt32 >>> ((1 : Int32).toUInt32 &&& Int32.toUInt32 31)).toInt32) &&& 1431655765)) &&& 858993459) + ((((y - (((y.toUInt32 >>> ((1 : Int32).toUInt32 &&& Int32.toUInt32 31)).toInt32) &&& 1431655765)).toUInt32 >>> ((2 : Int32).toUInt32 &&& Int32.toUInt32 31)).toInt32) &&& 858993459)) + (((((y - (((y.toUInt32 >>> ((1 : Int32).toUInt32 &&& Int32.toUInt32 31)).toInt32) &&& 1431655765)) &&& 858993459) + ((((y - (((y.toUInt32 >>> ((1 : Int32).toUInt32 &&& Int32.toUInt32 31)).toInt32) &&& 1431655765)).toUInt32 >>> ((2 : Int32).toUInt32 &&& Int32.toUInt32 31)).toInt32) &&& 858993459)).toUInt32 >>> ((4 : Int32).toUInt32 &&& Int32.toUInt32 31)).toInt32)) &&& 252645135) + (((((((y - (((y.toUInt32 >>> ((1 : Int32).toUInt32 &&& Int32.toUInt32 31)).toInt32) &&& 1431655765)) &&& 858993459) + ((((y - (((y.toUInt32 >>> ((1 : Int32).toUInt32 &&& Int32.toUInt32 31)).toInt32) &&& 1431655765)).toUInt32 >>> ((2 : Int32).toUInt32 &&& Int32.toUInt32 31)).toInt32) &&& 858993459)) + (((((y - (((y.toUInt32 >>> ((1 : Int32).toUInt32 &&& Int32.toUInt32 31)).toInt32) &&& 1431655765)) &&& 858993459) + ((((y - (((y.toUInt32 >>> ((1 : Int32).toUInt32 &&& Int32.toUInt32 31)).toInt32) &&& 1431655765)).toUInt32 >>> ((2 : Int32).toUInt32 &&& Int32.toUInt32 31)).toInt32) &&& 858993459)).toUInt32 >>> ((4 : Int32).toUInt32 &&& Int32.toUInt32 31)).toInt32)) &&& 252645135).toUInt32 >>> ((8 : Int32).toUInt32 &&& Int32.toUInt32 31)).toInt32)), .int ((((((y - (((y.toUInt32 >>> ((1 : Int32).toUInt32 &&& Int32.toUInt32 31)).toInt32) &&& 1431655765)) &&& 858993459) + ((((y - (((y.toUInt32 >>> ((1 : Int32).toUInt32 &&& Int32.toUInt32 31)).toInt32) &&& 1431655765)).toUInt32 >>> ((2 : Int32).toUInt32 &&& Int32.toUInt32 31)).toInt32) &&& 858993459)) + (((((y - (((y.toUInt32 >>> ((1 : Int32).toUInt32 &&& Int32.toUInt32 31)).toInt32) &&& 1431655765)) &&& 858993459) + ((((y - (((y.toUInt32 >>> ((1 : Int32).toUInt32 &&& Int32.toUInt32 31)).toInt32) &&& 1431655765)).toUInt32 >>> ((2 : Int32).toUInt32 &&& Int32.toUInt32 31)).toInt32) &&& 858993459)).toUInt32 >>> ((4 : Int32).toUInt32 &&& Int32.toUInt32 31)).toInt32)) &&& 252645135) + (((((((y - (((y.toUInt32 >>> ((1 : Int32).toUInt32 &&& Int32.toUInt32 31)).toInt32) &&& 1431655765)) &&& 858993459) + ((((y - (((y.toUInt32 >>> ((1 : Int32).toUInt32 &&& Int32.toUInt32 31)).toInt32) &&& 1431655765)).toUInt32 >>> ((2 : Int32).toUInt32 &&& Int32.toUInt32 31)).toInt32) &&& 858993459)) + (((((y - (((y.toUInt32 >>> ((1 : Int32).toUInt32 &&& Int32.toUInt32 31)).toInt32) &&& 1431655765)) &&& 858993459) + ((((y - (((y.toUInt32 >>> ((1 : Int32).toUInt32 &&& Int32.toUInt32 31)).toInt32) &&& 1431655765)).toUInt32 >>> ((2 : Int32).toUInt32 &&& Int32.toUInt32 31)).toInt32) &&& 858993459)).toUInt32 >>> ((4 : Int32).toUInt32 &&& Int32.toUInt32 31)).toInt32)) &&& 252645135).toUInt32 >>> ((8 : Int32).toUInt32 &&& Int32.toUInt32 31)).toInt32))], M)) rfl rfl rfl ?_
  refine ps_st (S' := (46, [(0, .int ((((((y - (((y.toUInt32 >>> ((1 : Int32).toUInt32 &&& Int32.toUInt32 31)).toInt32) &&& 1431655765)) &&& 858993459) + ((((y - (((y.toUInt32 >>> ((1 : Int32).toUInt32 &&& Int32.toUInt32 31)).toInt32) &&& 1431655765)).toUInt32 >>> ((2 : Int32).toUInt32 &&& Int32.toUInt32 31)).toInt32) &&& 858993459)) + (((((y - (((y.toUInt32 >>> ((1 : Int32).toUInt32 &&& Int32.toUInt32 31)).toInt32) &&& 1431655765)) &&& 858993459) + ((((y - (((y.toUInt32 >>> ((1 : Int32).toUInt32 &&& Int32.toUInt32 31)).toInt32) &&& 1431655765)).toUInt32 >>> ((2 : Int32).toUInt32 &&& Int32.toUInt32 31)).toInt32) &&& 858993459)).toUInt32 >>> ((4 : Int32).toUInt32 &&& Int32.toUInt32 31)).toInt32)) &&& 252645135) + (((((((y - (((y.toUInt32 >>> ((1 : Int32).toUInt32 &&& Int32.toUInt32 31)).toInt32) &&& 1431655765)) &&& 858993459) + ((((y - (((y.toUInt32 >>> ((1 : Int32).toUInt32 &&& Int32.toUInt32 31)).toInt32) &&& 1431655765)).toUInt32 >>> ((2 : Int32).toUInt32 &&& Int32.toUInt32 31)).toInt32) &&& 858993459)) + (((((y - (((y.toUInt32 >>> ((1 : Int32).toUInt32 &&& Int32.toUInt32 31)).toInt32) &&& 1431655765)) &&& 858993459) + ((((y - (((y.toUInt32 >>> ((1 : Int32).toUInt32 &&& Int32.toUInt32 31)).toInt32) &&& 1431655765)).toUInt32 >>> ((2 : Int32).toUInt32 &&& Int32.toUInt32 31)).toInt32) &&& 858993459)).toUInt32 >>> ((4 : Int32).toUInt32 &&& Int32.toUInt32 31)).toInt32)) &&& 252645135).toUInt32 >>> ((8 : Int32).toUInt32 &&& Int32.toUInt32 31)).toInt32)))], [.int ((((((((y - (((y.toUInt32 >>> ((1 : Int32).toUInt32 &&& Int32.toUInt32 31)).toInt32) &&& 1431655765)) &&& 858993459) + ((((y - (((y.toUInt32 >>> ((1 : Int32).toUInt32 &&& Int32.toUInt32 31)).toInt32) &&& 1431655765)).toUInt32 >>> ((2 : Int32).toUInt32 &&& Int32.toUInt32 31)).toInt32) &&& 858993459)) + (((((y - (((y.toUInt32 >>> ((1 : Int32).toUInt32 &&& Int32.toUInt32 31)).toInt32) &&& 1431655765)) &&& 858993459) + ((((y - (((y.toUInt32 >>> ((1 : Int32).toUInt32 &&& Int32.toUInt32 31)).toInt32) &&& 1431655765)).toUInt32 >>> ((2 : Int32).toUInt32 &&& Int32.toUInt32 31)).toInt32) &&& 858993459)).toUInt32 >>> ((4 : Int32).toUInt32 &&& Int32.toUInt32 31)).toInt32)) &&& 252645135) + (((((((y - (((y.toUInt32 >>> ((1 : Int32).toUInt32 &&& Int32.toUInt32 31)).toInt32) &&& 1431655765)) &&& 858993459) + ((((y - (((y.toUInt32 >>> ((1 : Int32).toUInt32 &&& Int32.toUInt32 31)).toInt32) &&& 1431655765)).toUInt32 >>> ((2 : Int32).toUInt32 &&& Int32.toUInt32 31)).toInt32) &&& 858993459)) + (((((y - (((y.toUInt32 >>> ((1 : Int32).toUInt32 &&& Int32.toUInt32 31)).toInt32) &&& 1431655765)) &&& 858993459) + ((((y - (((y.toUInt32 >>> ((1 : Int32).toUInt32 &&& Int32.toUInt32 31)).toInt32) &&& 1431655765)).toUInt32 >>> ((2 : Int32).toUInt32 &&& Int32.toUInt32 31)).toInt32) &&& 858993459)).toUInt32 >>> ((4 : Int32).toUInt32 &&& Int32.toUInt32 31)).toInt32)) &&& 252645135).toUInt32 >>> ((8 : Int32).toUInt32 &&& Int32.toUInt32 31)).toInt32)).toUInt32 >>> ((16 : Int32).toUInt32 &&& Int32.toUInt32 31)).toInt32), .int ((((((y - (((y.toUInt32 >>> ((1 : Int32).toUInt32 &&& Int32.toUInt32 31)).toInt32) &&& 1431655765)) &&& 858993459) + ((((y - (((y.toUInt32 >>> ((1 : Int32).toUInt32 &&& Int32.toUInt32 31)).toInt32) &&& 1431655765)).toUInt32 >>> ((2 : Int32).toUInt32 &&& Int32.toUInt32 31)).toInt32) &&& 858993459)) + (((((y - (((y.toUInt32 >>> ((1 : Int32).toUInt32 &&& Int32.toUInt32 31)).toInt32) &&& 1431655765)) &&& 858993459) + ((((y - (((y.toUInt32 >>> ((1 : Int32).toUInt32 &&& Int32.toUInt32 31)).toInt32) &&& 1431655765)).toUInt32 >>> ((2 : Int32).toUInt32 &&& Int32.toUInt32 31)).toInt32) &&& 858993459)).toUInt32 >>> ((4 : Int32).toUInt32 &&& Int32.toUInt32 31)).toInt32)) &&& 252645135) + (((((((y - (((y.toUInt32 >>> ((1 : Int32).toUInt32 &&& Int32.toUInt32 31)).toInt32) &&& 1431655765)) &&& 858993459) + ((((y - (((y.toUInt32 >>> ((1 : Int32).toUInt32 &&& Int32.toUInt32 31)).toInt32) &&& 1431655765)).toUInt32 >>> ((2 : Int32).toUInt32 &&& Int32.toUInt32 31)).toInt32) &&& 858993459)) + (((((y - (((y.toUInt32 >>> ((1 : Int32).toUInt32 &&& Int32.toUInt32 31)).toInt32) &&& 1431655765)) &&& 858993459) + ((((y - (((y.toUInt32 >>> ((1 : Int32).toUInt32 &&& Int32.toUInt32 31)).toInt32) &&& 1431655765)).toUInt32 >>> ((2 : Int32).toUInt32 &&& Int32.toUInt32 31)).toInt32) &&& 858993459)).toUInt32 >>> ((4 : Int32).toUInt32 &&& Int32.toUInt32 31)).toInt32)) &&& 252645135).toUInt32 >>> ((8 : Int32).toUInt32 &&& Int32.toUInt32 31)).toInt32))], M)) rfl rfl rfl ?_
  refine ps_st (S' := (47, [(0, .int ((((((y - (((y.toUInt32 >>> ((1 : Int32).toUInt32 &&& Int32.toUInt32 31)).toInt32) &&& 1431655765)) &&& 858993459) + ((((y - (((y.toUInt32 >>> ((1 : Int32).toUInt32 &&& Int32.toUInt32 31)).toInt32) &&& 1431655765)).toUInt32 >>> ((2 : Int32).toUInt32 &&& Int32.toUInt32 31)).toInt32) &&& 858993459)) + (((((y - (((y.toUInt32 >>> ((1 : Int32).toUInt32 &&& Int32.toUInt32 31)).toInt32) &&& 1431655765)) &&& 858993459) + ((((y - (((y.toUInt32 >>> ((1 : Int32).toUInt32 &&& Int32.toUInt32 31)).toInt32) &&& 1431655765)).toUInt32 >>> ((2 : Int32).toUInt32 &&& Int32.toUInt32 31)).toInt32) &&& 858993459)).toUInt32 >>> ((4 : Int32).toUInt32 &&& Int32.toUInt32 31)).toInt32)) &&& 252645135) + (((((((y - (((y.toUInt32 >>> ((1 : Int32).toUInt32 &&& Int32.toUInt32 31)).toInt32) &&& 1431655765)) &&& 858993459) + ((((y - (((y.toUInt32 >>> ((1 : Int32).toUInt32 &&& Int32.toUInt32 31)).toInt32) &&& 1431655765)).toUInt32 >>> ((2 : Int32).toUInt32 &&& Int32.toUInt32 31)).toInt32) &&& 858993459)) + (((((y - (((y.toUInt32 >>> ((1 : Int32).toUInt32 &&& Int32.toUInt32 31)).toInt32) &&& 1431655765)) &&& 858993459) + ((((y - (((y.toUInt32 >>> ((1 : Int32).toUInt32 &&& Int32.toUInt32 31)).toInt32) &&& 1431655765)).toUInt32 >>> ((2 : Int32).toUInt32 &&& Int32.toUInt32 31)).toInt32) &&& 858993459)).toUInt32 >>> ((4 : Int32).toUInt32 &&& Int32.toUInt32 31)).toInt32)) &&& 252645135).toUInt32 >>> ((8 : Int32).toUInt32 &&& Int32.toUInt32 31)).toInt32)))], [.int (((((((y - (((y.toUInt32 >>> ((1 : Int32).toUInt32 &&& Int32.toUInt32 31)).toInt32) &&& 1431655765)) &&& 858993459) + ((((y - (((y.toUInt32 >>> ((1 : Int32).toUInt32 &&& Int32.toUInt32 31)).toInt32) &&& 1431655765)).toUInt32 >>> ((2 : Int32).toUInt32 &&& Int32.toUInt32 31)).toInt32) &&& 858993459)) + (((((y - (((y.toUInt32 >>> ((1 : Int32).toUInt32 &&& Int32.toUInt32 31)).toInt32) &&& 1431655765)) &&& 858993459) + ((((y - (((y.toUInt32 >>> ((1 : Int32).toUInt32 &&& Int32.toUInt32 31)).toInt32) &&& 1431655765)).toUInt32 >>> ((2 : Int32).toUInt32 &&& Int32.toUInt32 31)).toInt32) &&& 858993459)).toUInt32 >>> ((4 : Int32).toUInt32 &&& Int32.toUInt32 31)).toInt32)) &&& 252645135) + (((((((y - (((y.toUInt32 >>> ((1 : Int32).toUInt32 &&& Int32.toUInt32 31)).toInt32) &&& 1431655765)) &&& 858993459) + ((((y - (((y.toUInt32 >>> ((1 : Int32).toUInt32 &&& Int32.toUInt32 31)).toInt32) &&& 1431655765)).toUInt32 >>> ((2 : Int32).toUInt32 &&& Int32.toUInt32 31)).toInt32) &&& 858993459)) + (((((y - (((y.toUInt32 >>> ((1 : Int32).toUInt32 &&& Int32.toUInt32 31)).toInt32) &&& 1431655765)) &&& 858993459) + ((((y - (((y.toUInt32 >>> ((1 : Int32).toUInt32 &&& Int32.toUInt32 31)).toInt32) &&& 1431655765)).toUInt32 >>> ((2 : Int32).toUInt32 &&& Int32.toUInt32 31)).toInt32) &&& 858993459)).toUInt32 >>> ((4 : Int32).toUInt32 &&& Int32.toUInt32 31)).toInt32)) &&& 252645135).toUInt32 >>> ((8 : Int32).toUInt32 &&& Int32.toUInt32 31)).toInt32)) + ((((((((y - (((y.toUInt32 >>> ((1 : Int32).toUInt32 &&& Int32.toUInt32 31)).toInt32) &&& 1431655765)) &&& 858993459) + ((((y - (((y.toUInt32 >>> ((1 : Int32).toUInt32 &&& Int32.toUInt32 31)).toInt32) &&& 1431655765)).toUInt32 >>> ((2 : Int32).toUInt32 &&& Int32.toUInt32 31)).toInt32) &&& 858993459)) + (((((y - (((y.toUInt32 >>> ((1 : Int32).toUInt32 &&& Int32.toUInt32 31)).toInt32) &&& 1431655765)) &&& 858993459) + ((((y - (((y.toUInt32 >>> ((1 : Int32).toUInt32 &&& Int32.toUInt32 31)).toInt32) &&& 1431655765)).toUInt32 >>> ((2 : Int32).toUInt32 &&& Int32.toUInt32 31)).toInt32) &&& 858993459)).toUInt32 >>> ((4 : Int32).toUInt32 &&& Int32.toUInt32 31)).toInt32)) &&& 252645135) + (((((((y - (((y.toUInt32 >>> ((1 : Int32).toUInt32 &&& Int32.toUInt32 31)).toInt32) &&& 1431655765)) &&& 858993459) + ((((y - (((y.toUInt32 >>> ((1 : Int32).toUInt32 &&& Int32.toUInt32 31)).toInt32) &&& 1431655765)).toUInt32 >>> ((2 : Int32).toUInt32 &&& Int32.toUInt32 31)).toInt32) &&& 858993459)) + (((((y - (((y.toUInt32 >>> ((1 : Int32).toUInt32 &&& Int32.toUInt32 31)).toInt32) &&& 1431655765)) &&& 858993459) + ((((y - (((y.toUInt32 >>> ((1 : Int32).toUInt32 &&& Int32.toUInt32 31)).toInt32) &&& 1431655765)).toUInt32 >>> ((2 : Int32).toUInt32 &&& Int32.toUInt32 31)).toInt32) &&& 858993459)).toUInt32 >>> ((4 : Int32).toUInt32 &&& Int32.toUInt32 31)).toInt32)) &&& 252645135).toUInt32 >>> ((8 : Int32).toUInt32 &&& Int32.toUInt32 31)).toInt32)).toUInt32 >>> ((16 : Int32).toUInt32 &&& Int32.toUInt32 31)).toInt32))], M)) rfl rfl rfl ?_
  refine ps_st (S' := (48, [(0, .int (((((((y - (((y.toUInt32 >>> ((1 : Int32).toUInt32 &&& Int32.toUInt32 31)).toInt32) &&& 1431655765)) &&& 858993459) + ((((y - (((y.toUInt32 >>> ((1 : Int32).toUInt32 &&& Int32.toUInt32 31)).toInt32) &&& 1431655765)).toUInt32 >>> ((2 : Int32).toUInt32 &&& Int32.toUInt32 31)).toInt32) &&& 858993459)) + (((((y - (((y.toUInt32 >>> ((1 : Int32).toUInt32 &&& Int32.toUInt32 31)).toInt32) &&& 1431655765)) &&& 858993459) + ((((y - (((y.toUInt32 >>> ((1 : Int32).toUInt32 &&& Int32.toUInt32 31)).toInt32) &&& 1431655765)).toUInt32 >>> ((2 : Int32).toUInt32 &&& Int32.toUInt32 31)).toInt32) &&& 858993459)).toUInt32 >>> ((4 : Int32).toUInt32 &&& Int32.toUInt32 31)).toInt32)) &&& 252645135) + (((((((y - (((y.toUInt32 >>> ((1 : Int32).toUInt32 &&& Int32.toUInt32 31)).toInt32) &&& 1431655765)) &&& 858993459) + ((((y - (((y.toUInt32 >>> ((1 : Int32).toUInt32 &&& Int32.toUInt32 31)).toInt32) &&& 1431655765)).toUInt32 >>> ((2 : Int32).toUInt32 &&& Int32.toUInt32 31)).toInt32) &&& 858993459)) + (((((y - (((y.toUInt32 >>> ((1 : Int32).toUInt32 &&& Int32.toUInt32 31)).toInt32) &&& 1431655765)) &&& 858993459) + ((((y - (((y.toUInt32 >>> ((1 : Int32).toUInt32 &&& Int32.toUInt32 31)).toInt32) &&& 1431655765)).toUInt32 >>> ((2 : Int32).toUInt32 &&& Int32.toUInt32 31)).toInt32) &&& 858993459)).toUInt32 >>> ((4 : Int32).toUInt32 &&& Int32.toUInt32 31)).toInt32)) &&& 252645135).toUInt32 >>> ((8 : Int32).toUInt32 &&& Int32.toUInt32 31)).toInt32)) + ((((((((y - (((y.toUInt32 >>> ((1 : Int32).toUInt32 &&& Int32.toUInt32 31)).toInt32) &&& 1431655765)) &&& 858993459) + ((((y - (((y.toUInt32 >>> ((1 : Int32).toUInt32 &&& Int32.toUInt32 31)).toInt32) &&& 1431655765)).toUInt32 >>> ((2 : Int32).toUInt32 &&& Int32.toUInt32 31)).toInt32) &&& 858993459)) + (((((y - (((y.toUInt32 >>> ((1 : Int32).toUInt32 &&& Int32.toUInt32 31)).toInt32) &&& 1431655765)) &&& 858993459) + ((((y - (((y.toUInt32 >>> ((1 : Int32).toUInt32 &&& Int32.toUInt32 31)).toInt32) &&& 1431655765)).toUInt32 >>> ((2 : Int32).toUInt32 &&& Int32.toUInt32 31)).toInt32) &&& 858993459)).toUInt32 >>> ((4 : Int32).toUInt32 &&& Int32.toUInt32 31)).toInt32)) &&& 252645135) + (((((((y - (((y.toUInt32 >>> ((1 : Int32).toUInt32 &&& Int32.toUInt32 31)).toInt32) &&& 1431655765)) &&& 858993459) + ((((y - (((y.toUInt32 >>> ((1 : Int32).toUInt32 &&& Int32.toUInt32 31)).toInt32) &&& 1431655765)).toUInt32 >>> ((2 : Int32).toUInt32 &&& Int32.toUInt32 31)).toInt32) &&& 858993459)) + (((((y - (((y.toUInt32 >>> ((1 : Int32).toUInt32 &&& Int32.toUInt32 31)).toInt32) &&& 1431655765)) &&& 858993459) + ((((y - (((y.toUInt32 >>> ((1 : Int32).toUInt32 &&& Int32.toUInt32 31)).toInt32) &&& 1431655765)).toUInt32 >>> ((2 : Int32).toUInt32 &&& Int32.toUInt32 31)).toInt32) &&& 858993459)).toUInt32 >>> ((4 : Int32).toUInt32 &&& Int32.toUInt32 31)).toInt32)) &&& 252645135).toUInt32 >>> ((8 : Int32).toUInt32 &&& Int32.toUInt32 31)).toInt32)).toUInt32 >>> ((16 : Int32).toUInt32 &&& Int32.toUInt32 31)).toInt32)))], [], M)) rfl rfl rfl ?_
  refine ps_st (S' := (49, [(0, .int (((((((y - (((y.toUInt32 >>> ((1 : Int32).toUInt32 &&& Int32.toUInt32 31)).toInt32) &&& 1431655765)) &&& 858993459) + ((((y - (((y.toUInt32 >>> ((1 : Int32).toUInt32 &&& Int32.toUInt32 31)).toInt32) &&& 1431655765)).toUInt32 >>> ((2 : Int32).toUInt32 &&& Int32.toUInt32 31)).toInt32) &&& 858993459)) + (((((y - (((y.toUInt32 >>> ((1 : Int32).toUInt32 &&& Int32.toUInt32 31)).toInt32) &&& 1431655765)) &&& 858993459) + ((((y - (((y.toUInt32 >>> ((1 : Int32).toUInt32 &&& Int32.toUInt32 31)).toInt32) &&& 1431655765)).toUInt32 >>> ((2 : Int32).toUInt32 &&& Int32.toUInt32 31)).toInt32) &&& 858993459)).toUInt32 >>> ((4 : Int32).toUInt32 &&& Int32.toUInt32 31)).toInt32)) &&& 252645135) + (((((((y - (((y.toUInt32 >>> ((1 : Int32).toUInt32 &&& Int32.toUInt32 31)).toInt32) &&& 1431655765)) &&& 858993459) + ((((y - (((y.toUInt32 >>> ((1 : Int32).toUInt32 &&& Int32.toUInt32 31)).toInt32) &&& 1431655765)).toUInt32 >>> ((2 : Int32).toUInt32 &&& Int32.toUInt32 31)).toInt32) &&& 858993459)) + (((((y - (((y.toUInt32 >>> ((1 : Int32).toUInt32 &&& Int32.toUInt32 31)).toInt32) &&& 1431655765)) &&& 858993459) + ((((y - (((y.toUInt32 >>> ((1 : Int32).toUInt32 &&& Int32.toUInt32 31)).toInt32) &&& 1431655765)).toUInt32 >>> ((2 : Int32).toUInt32 &&& Int32.toUInt32 31)).toInt32) &&& 858993459)).toUInt32 >>> ((4 : Int32).toUInt32 &&& Int32.toUInt32 31)).toInt32)) &&& 252645135).toUInt32 >>> ((8 : Int32).toUInt32 &&& Int32.toUInt32 31)).toInt32)) + ((((((((y - (((y.toUInt32 >>> ((1 : Int32).toUInt32 &&& Int32.toUInt32 31)).toInt32) &&& 1431655765)) &&& 858993459) + ((((y - (((y.toUInt32 >>> ((1 : Int32).toUInt32 &&& Int32.toUInt32 31)).toInt32) &&& 1431655765)).toUInt32 >>> ((2 : Int32).toUInt32 &&& Int32.toUInt32 31)).toInt32) &&& 858993459)) + (((((y - (((y.toUInt32 >>> ((1 : Int32).toUInt32 &&& Int32.toUInt32 31)).toInt32) &&& 1431655765)) &&& 858993459) + ((((y - (((y.toUInt32 >>> ((1 : Int32).toUInt32 &&& Int32.toUInt32 31)).toInt32) &&& 1431655765)).toUInt32 >>> ((2 : Int32).toUInt32 &&& Int32.toUInt32 31)).toInt32) &&& 858993459)).toUInt32 >>> ((4 : Int32).toUInt32 &&& Int32.toUInt32 31)).toInt32)) &&& 252645135) + (((((((y - (((y.toUInt32 >>> ((1 : Int32).toUInt32 &&& Int32.toUInt32 31)).toInt32) &&& 1431655765)) &&& 858993459) + ((((y - (((y.toUInt32 >>> ((1 : Int32).toUInt32 &&& Int32.toUInt32 31)).toInt32) &&& 1431655765)).toUInt32 >>> ((2 : Int32).toUInt32 &&& Int32.toUInt32 31)).toInt32) &&& 858993459)) + (((((y - (((y.toUInt32 >>> ((1 : Int32).toUInt32 &&& Int32.toUInt32 31)).toInt32) &&& 1431655765)) &&& 858993459) + ((((y - (((y.toUInt32 >>> ((1 : Int32).toUInt32 &&& Int32.toUInt32 31)).toInt32) &&& 1431655765)).toUInt32 >>> ((2 : Int32).toUInt32 &&& Int32.toUInt32 31)).toInt32) &&& 858993459)).toUInt32 >>> ((4 : Int32).toUInt32 &&& Int32.toUInt32 31)).toInt32)) &&& 252645135).toUInt32 >>> ((8 : Int32).toUInt32 &&& Int32.toUInt32 31)).toInt32)).toUInt32 >>> ((16 : Int32).toUInt32 &&& Int32.toUInt32 31)).toInt32)))], [.int (((((((y - (((y.toUInt32 >>> ((1 : Int32).toUInt32 &&& Int32.toUInt32 31)).toInt32) &&& 1431655765)) &&& 858993459) + ((((y - (((y.toUInt32 >>> ((1 : Int32).toUInt32 &&& Int32.toUInt32 31)).toInt32) &&& 1431655765)).toUInt32 >>> ((2 : Int32).toUInt32 &&& Int32.toUInt32 31)).toInt32) &&& 858993459)) + (((((y - (((y.toUInt32 >>> ((1 : Int32).toUInt32 &&& Int32.toUInt32 31)).toInt32) &&& 1431655765)) &&& 858993459) + ((((y - (((y.toUInt32 >>> ((1 : Int32).toUInt32 &&& Int32.toUInt32 31)).toInt32) &&& 1431655765)).toUInt32 >>> ((2 : Int32).toUInt32 &&& Int32.toUInt32 31)).toInt32) &&& 858993459)).toUInt32 >>> ((4 : Int32).toUInt32 &&& Int32.toUInt32 31)).toInt32)) &&& 252645135) + (((((((y - (((y.toUInt32 >>> ((1 : Int32).toUInt32 &&& Int32.toUInt32 31)).toInt32) &&& 1431655765)) &&& 858993459) + ((((y - (((y.toUInt32 >>> ((1 : Int32).toUInt32 &&& Int32.toUInt32 31)).toInt32) &&& 1431655765)).toUInt32 >>> ((2 : Int32).toUInt32 &&& Int32.toUInt32 31)).toInt32) &&& 858993459)) + (((((y - (((y.toUInt32 >>> ((1 : Int32).toUInt32 &&& Int32.toUInt32 31)).toInt32) &&& 1431655765)) &&& 858993459) + ((((y - (((y.toUInt32 >>> ((1 : Int32).toUInt32 &&& Int32.toUInt32 31)).toInt32) &&& 1431655765)).toUInt32 >>> ((2 : Int32).toUInt32 &&& Int32.toUInt32 31)).toInt32) &&& 858993459)).toUInt32 >>> ((4 : Int32).toUInt32 &&& Int32.toUInt32 31)).toInt32)) &&& 252645135).toUInt32 >>> ((8 : Int32).toUInt32 &&& Int32.toUInt32 31)).toInt32)) + ((((((((y - (((y.toUInt32 >>> ((1 : Int32).toUInt32 &&& Int32.toUInt32 31)).toInt32) &&& 1431655765)) &&& 858993459) + ((((y - (((y.toUInt32 >>> ((1 : Int32).toUInt32 &&& Int32.toUInt32 31)).toInt32) &&& 1431655765)).toUInt32 >>> ((2 : Int32).toUInt32 &&& Int32.toUInt32 31)).toInt32) &&& 858993459)) + (((((y - (((y.toUInt32 >>> ((1 : Int32).toUInt32 &&& Int32.toUInt32 31)).toInt32) &&& 1431655765)) &&& 858993459) + ((((y - (((y.toUInt32 >>> ((1 : Int32).toUInt32 &&& Int32.toUInt32 31)).toInt32) &&& 1431655765)).toUInt32 >>> ((2 : Int32).toUInt32 &&& Int32.toUInt32 31)).toInt32) &&& 858993459)).toUInt32 >>> ((4 : Int32).toUInt32 &&& Int32.toUInt32 31)).toInt32)) &&& 252645135) + (((((((y - (((y.toUInt32 >>> ((1 : Int32).toUInt32 &&& Int32.toUInt32 31)).toInt32) &&& 1431655765)) &&& 858993459) + ((((y - (((y.toUInt32 >>> ((1 : Int32).toUInt32 &&& Int32.toUInt32 31)).toInt32) &&& 1431655765)).toUInt32 >>> ((2 : Int32).toUInt32 &&& Int32.toUInt32 31)).toInt32) &&& 858993459)) + (((((y - (((y.toUInt32 >>> ((1 : Int32).toUInt32 &&& Int32.toUInt32 31)).toInt32) &&& 1431655765)) &&& 858993459) + ((((y - (((y.toUInt32 >>> ((1 : Int32).toUInt32 &&& Int32.toUInt32 31)).toInt32) &&& 1431655765)).toUInt32 >>> ((2 : Int32).toUInt32 &&& Int32.toUInt32 31)).toInt32) &&& 858993459)).toUInt32 >>> ((4 : Int32).toUInt32 &&& Int32.toUInt32 31)).toInt32)) &&& 252645135).toUInt32 >>> ((8 : Int32).toUInt32 &&& Int32.toUInt32 31)).toInt32)).toUInt32 >>> ((16 : Int32).toUInt32 &&& Int32.toUInt32 31)).toInt32))], M)) rfl rfl rfl ?_
  refine ps_st (S' := (51, [(0, .int (((((((y - (((y.toUInt32 >>> ((1 : Int32).toUInt32 &&& Int32.toUInt32 31)).toInt32) &&& 1431655765)) &&& 858993459) + ((((y - (((y.toUInt32 >>> ((1 : Int32).toUInt32 &&& Int32.toUInt32 31)).toInt32) &&& 1431655765)).toUInt32 >>> ((2 : Int32).toUInt32 &&& Int32.toUInt32 31)).toInt32) &&& 858993459)) + (((((y - (((y.toUInt32 >>> ((1 : Int32).toUInt32 &&& Int32.toUInt32 31)).toInt32) &&& 1431655765)) &&& 858993459) + ((((y - (((y.toUInt32 >>> ((1 : Int32).toUInt32 &&& Int32.toUInt32 31)).toInt32) &&& 1431655765)).toUInt32 >>> ((2 : Int32).toUInt32 &&& Int32.toUInt32 31)).toInt32) &&& 858993459)).toUInt32 >>> ((4 : Int32).toUInt32 &&& Int32.toUInt32 31)).toInt32)) &&& 252645135) + (((((((y - (((y.toUInt32 >>> ((1 : Int32).toUInt32 &&& Int32.toUInt32 31)).toInt32) &&& 1431655765)) &&& 858993459) + ((((y - (((y.toUInt32 >>> ((1 : Int32).toUInt32 &&& Int32.toUInt32 31)).toInt32) &&& 1431655765)).toUInt32 >>> ((2 : Int32).toUInt32 &&& Int32.toUInt32 31)).toInt32) &&& 858993459)) + (((((y - (((y.toUInt32 >>> ((1 : Int32).toUInt32 &&& Int32.toUInt32 31)).toInt32) &&& 1431655765)) &&& 858993459) + ((((y - (((y.toUInt32 >>> ((1 : Int32).toUInt32 &&& Int32.toUInt32 31)).toInt32) &&& 1431655765)).toUInt32 >>> ((2 : Int32).toUInt32 &&& Int32.toUInt32 31)).toInt32) &&& 858993459)).toUInt32 >>> ((4 : Int32).toUInt32 &&& Int32.toUInt32 31)).toInt32)) &&& 252645135).toUInt32 >>> ((8 : Int32).toUInt32 &&& Int32.toUInt32 31)).toInt32)) + ((((((((y - (((y.toUInt32 >>> ((1 : Int32).toUInt32 &&& Int32.toUInt32 31)).toInt32) &&& 1431655765)) &&& 858993459) + ((((y - (((y.toUInt32 >>> ((1 : Int32).toUInt32 &&& Int32.toUInt32 31)).toInt32) &&& 1431655765)).toUInt32 >>> ((2 : Int32).toUInt32 &&& Int32.toUInt32 31)).toInt32) &&& 858993459)) + (((((y - (((y.toUInt32 >>> ((1 : Int32).toUInt32 &&& Int32.toUInt32 31)).toInt32) &&& 1431655765)) &&& 858993459) + ((((y - (((y.toUInt32 >>> ((1 : Int32).toUInt32 &&& Int32.toUInt32 31)).toInt32) &&& 1431655765)).toUInt32 >>> ((2 : Int32).toUInt32 &&& Int32.toUInt32 31)).toInt32) &&& 858993459)).toUInt32 >>> ((4 : Int32).toUInt32 &&& Int32.toUInt32 31)).toInt32)) &&& 252645135) + (((((((y - (((y.toUInt32 >>> ((1 : Int32).toUInt32 &&& Int32.toUInt32 31)).toInt32) &&& 1431655765)) &&& 858993459) + ((((y - (((y.toUInt32 >>> ((1 : Int32).toUInt32 &&& Int32.toUInt32 31)).toInt32) &&& 1431655765)).toUInt32 >>> ((2 : Int32).toUInt32 &&& Int32.toUInt32 31)).toInt32) &&& 858993459)) + (((((y - (((y.toUInt32 >>> ((1 : Int32).toUInt32 &&& Int32.toUInt32 31)).toInt32) &&& 1431655765)) &&& 858993459) + ((((y - (((y.toUInt32 >>> ((1 : Int32).toUInt32 &&& Int32.toUInt32 31)).toInt32) &&& 1431655765)).toUInt32 >>> ((2 : Int32).toUInt32 &&& Int32.toUInt32 31)).toInt32) &&& 858993459)).toUInt32 >>> ((4 : Int32).toUInt32 &&& Int32.toUInt32 31)).toInt32)) &&& 252645135).toUInt32 >>> ((8 : Int32).toUInt32 &&& Int32.toUInt32 31)).toInt32)).toUInt32 >>> ((16 : Int32).toUInt32 &&& Int32.toUInt32 31)).toInt32)))], [.int 63, .int (((((((y - (((y.toUInt32 >>> ((1 : Int32).toUInt32 &&& Int32.toUInt32 31)).toInt32) &&& 1431655765)) &&& 858993459) + ((((y - (((y.toUInt32 >>> ((1 : Int32).toUInt32 &&& Int32.toUInt32 31)).toInt32) &&& 1431655765)).toUInt32 >>> ((2 : Int32).toUInt32 &&& Int32.toUInt32 31)).toInt32) &&& 858993459)) + (((((y - (((y.toUInt32 >>> ((1 : Int32).toUInt32 &&& Int32.toUInt32 31)).toInt32) &&& 1431655765)) &&& 858993459) + ((((y - (((y.toUInt32 >>> ((1 : Int32).toUInt32 &&& Int32.toUInt32 31)).toInt32) &&& 1431655765)).toUInt32 >>> ((2 : Int32).toUInt32 &&& Int32.toUInt32 31)).toInt32) &&& 858993459)).toUInt32 >>> ((4 : Int32).toUInt32 &&& Int32.toUInt32 31)).toInt32)) &&& 252645135) + (((((((y - (((y.toUInt32 >>> ((1 : Int32).toUInt32 &&& Int32.toUInt32 31)).toInt32) &&& 1431655765)) &&& 858993459) + ((((y - (((y.toUInt32 >>> ((1 : Int32).toUInt32 &&& Int32.toUInt32 31)).toInt32) &&& 1431655765)).toUInt32 >>> ((2 : Int32).toUInt32 &&& Int32.toUInt32 31)).toInt32) &&& 858993459)) + (((((y - (((y.toUInt32 >>> ((1 : Int32).toUInt32 &&& Int32.toUInt32 31)).toInt32) &&& 1431655765)) &&& 858993459) + ((((y - (((y.toUInt32 >>> ((1 : Int32).toUInt32 &&& Int32.toUInt32 31)).toInt32) &&& 1431655765)).toUInt32 >>> ((2 : Int32).toUInt32 &&& Int32.toUInt32 31)).toInt32) &&& 858993459)).toUInt32 >>> ((4 : Int32).toUInt32 &&& Int32.toUInt32 31)).toInt32)) &&& 252645135).toUInt32 >>> ((8 : Int32).toUInt32 &&& Int32.toUInt32 31)).toInt32)) + ((((((((y - (((y.toUInt32 >>> ((1 : Int32).toUInt32 &&& Int32.toUInt32 31)).toInt32) &&& 1431655765)) &&& 858993459) + ((((y - (((y.toUInt32 >>> ((1 : Int32).toUInt32 &&& Int32.toUInt32 31)).toInt32) &&& 1431655765)).toUInt32 >>> ((2 : Int32).toUInt32 &&& Int32.toUInt32 31)).toInt32) &&& 858993459)) + (((((y - (((y.toUInt32 >>> ((1 : Int32).toUInt32 &&& Int32.toUInt32 31)).toInt32) &&& 1431655765)) &&& 858993459) + ((((y - (((y.toUInt32 >>> ((1 : Int32).toUInt32 &&& Int32.toUInt32 31)).toInt32) &&& 1431655765)).toUInt32 >>> ((2 : Int32).toUInt32 &&& Int32.toUInt32 31)).toInt32) &&& 858993459)).toUInt32 >>> ((4 : Int32).toUInt32 &&& Int32.toUInt32 31)).toInt32)) &&& 252645135) + (((((((y - (((y.toUInt32 >>> ((1 : Int32).toUInt32 &&& Int32.toUInt32 31)).toInt32) &&& 1431655765)) &&& 858993459) + ((((y - (((y.toUInt32 >>> ((1 : Int32).toUInt32 &&& Int32.toUInt32 31)).toInt32) &&& 1431655765)).toUInt32 >>> ((2 : Int32).toUInt32 &&& Int32.toUInt32 31)).toInt32) &&& 858993459)) + (((((y - (((y.toUInt32 >>> ((1 : Int32).toUInt32 &&& Int32.toUInt32 31)).toInt32) &&& 1431655765)) &&& 858993459) + ((((y - (((y.toUInt32 >>> ((1 : Int32).toUInt32 &&& Int32.toUInt32 31)).toInt32) &&& 1431655765)).toUInt32 >>> ((2 : Int32).toUInt32 &&& Int32.toUInt32 31)).toInt32) &&& 858993459)).toUInt32 >>> ((4 : Int32).toUInt32 &&& Int32.toUInt32 31)).toInt32)) &&& 252645135).toUInt32 >>> ((8 : Int32).toUInt32 &&& Int32.toUInt32 31)).toInt32)).toUInt32 >>> ((16 : Int32).toUInt32 &&& Int32.toUInt32 31)).toInt32))], M)) rfl rfl rfl ?_
  refine ps_st (S' := (52, [(0, .int (((((((y - (((y.toUInt32 >>> ((1 : Int32).toUInt32 &&& Int32.toUInt32 31)).toInt32) &&& 1431655765)) &&& 858993459) + ((((y - (((y.toUInt32 >>> ((1 : Int32).toUInt32 &&& Int32.toUInt32 31)).toInt32) &&& 1431655765)).toUInt32 >>> ((2 : Int32).toUInt32 &&& Int32.toUInt32 31)).toInt32) &&& 858993459)) + (((((y - (((y.toUInt32 >>> ((1 : Int32).toUInt32 &&& Int32.toUInt32 31)).toInt32) &&& 1431655765)) &&& 858993459) + ((((y - (((y.toUInt32 >>> ((1 : Int32).toUInt32 &&& Int32.toUInt32 31)).toInt32) &&& 1431655765)).toUInt32 >>> ((2 : Int32).toUInt32 &&& Int32.toUInt32 31)).toInt32) &&& 858993459)).toUInt32 >>> ((4 : Int32).toUInt32 &&& Int32.toUInt32 31)).toInt32)) &&& 252645135) + (((((((y - (((y.toUInt32 >>> ((1 : Int32).toUInt32 &&& Int32.toUInt32 31)).toInt32) &&& 1431655765)) &&& 858993459) + ((((y - (((y.toUInt32 >>> ((1 : Int32).toUInt32 &&& Int32.toUInt32 31)).toInt32) &&& 1431655765)).toUInt32 >>> ((2 : Int32).toUInt32 &&& Int32.toUInt32 31)).toInt32) &&& 858993459)) + (((((y - (((y.toUInt32 >>> ((1 : Int32).toUInt32 &&& Int32.toUInt32 31)).toInt32) &&& 1431655765)) &&& 858993459) + ((((y - (((y.toUInt32 >>> ((1 : Int32).toUInt32 &&& Int32.toUInt32 31)).toInt32) &&& 1431655765)).toUInt32 >>> ((2 : Int32).toUInt32 &&& Int32.toUInt32 31)).toInt32) &&& 858993459)).toUInt32 >>> ((4 : Int32).toUInt32 &&& Int32.toUInt32 31)).toInt32)) &&& 252645135).toUInt32 >>> ((8 : Int32).toUInt32 &&& Int32.toUInt32 31)).toInt32)) + ((((((((y - (((y.toUInt32 >>> ((1 : Int32).toUInt32 &&& Int32.toUInt32 31)).toInt32) &&& 1431655765)) &&& 858993459) + ((((y - (((y.toUInt32 >>> ((1 : Int32).toUInt32 &&& Int32.toUInt32 31)).toInt32) &&& 1431655765)).toUInt32 >>> ((2 : Int32).toUInt32 &&& Int32.toUInt32 31)).toInt32) &&& 858993459)) + (((((y - (((y.toUInt32 >>> ((1 : Int32).toUInt32 &&& Int32.toUInt32 31)).toInt32) &&& 1431655765)) &&& 858993459) + ((((y - (((y.toUInt32 >>> ((1 : Int32).toUInt32 &&& Int32.toUInt32 31)).toInt32) &&& 1431655765)).toUInt32 >>> ((2 : Int32).toUInt32 &&& Int32.toUInt32 31)).toInt32) &&& 858993459)).toUInt32 >>> ((4 : Int32).toUInt32 &&& Int32.toUInt32 31)).toInt32)) &&& 252645135) + (((((((y - (((y.toUInt32 >>> ((1 : Int32).toUInt32 &&& Int32.toUInt32 31)).toInt32) &&& 1431655765)) &&& 858993459) + ((((y - (((y.toUInt32 >>> ((1 : Int32).toUInt32 &&& Int32.toUInt32 31)).toInt32) &&& 1431655765)).toUInt32 >>> ((2 : Int32).toUInt32 &&& Int32.toUInt32 31)).toInt32) &&& 858993459)) + (((((y - (((y.toUInt32 >>> ((1 : Int32).toUInt32 &&& Int32.toUInt32 31)).toInt32) &&& 1431655765)) &&& 858993459) + ((((y - (((y.toUInt32 >>> ((1 : Int32).toUInt32 &&& Int32.toUInt32 31)).toInt32) &&& 1431655765)).toUInt32 >>> ((2 : Int32).toUInt32 &&& Int32.toUInt32 31)).toInt32) &&& 858993459)).toUInt32 >>> ((4 : Int32).toUInt32 &&& Int32.toUInt32 31)).toInt32)) &&& 252645135).toUInt32 >>> ((8 : Int32).toUInt32 &&& Int32.toUInt32 31)).toInt32)).toUInt32 >>> ((16 : Int32).toUInt32 &&& Int32.toUInt32 31)).toInt32)))], [.int ((((((((y - (((y.toUInt32 >>> ((1 : Int32).toUInt32 &&& Int32.toUInt32 31)).toInt32) &&& 1431655765)) &&& 858993459) + ((((y - (((y.toUInt32 >>> ((1 : Int32).toUInt32 &&& Int32.toUInt32 31)).toInt32) &&& 1431655765)).toUInt32 >>> ((2 : Int32).toUInt32 &&& Int32.toUInt32 31)).toInt32) &&& 858993459)) + (((((y - (((y.toUInt32 >>> ((1 : Int32).toUInt32 &&& Int32.toUInt32 31)).toInt32) &&& 1431655765)) &&& 858993459) + ((((y - (((y.toUInt32 >>> ((1 : Int32).toUInt32 &&& Int32.toUInt32 31)).toInt32) &&& 1431655765)).toUInt32 >>> ((2 : Int32).toUInt32 &&& Int32.toUInt32 31)).toInt32) &&& 858993459)).toUInt32 >>> ((4 : Int32).toUInt32 &&& Int32.toUInt32 31)).toInt32)) &&& 252645135) + (((((((y - (((y.toUInt32 >>> ((1 : Int32).toUInt32 &&& Int32.toUInt32 31)).toInt32) &&& 1431655765)) &&& 858993459) + ((((y - (((y.toUInt32 >>> ((1 : Int32).toUInt32 &&& Int32.toUInt32 31)).toInt32) &&& 1431655765)).toUInt32 >>> ((2 : Int32).toUInt32 &&& Int32.toUInt32 31)).toInt32) &&& 858993459)) + (((((y - (((y.toUInt32 >>> ((1 : Int32).toUInt32 &&& Int32.toUInt32 31)).toInt32) &&& 1431655765)) &&& 858993459) + ((((y - (((y.toUInt32 >>> ((1 : Int32).toUInt32 &&& Int32.toUInt32 31)).toInt32) &&& 1431655765)).toUInt32 >>> ((2 : Int32).toUInt32 &&& Int32.toUInt32 31)).toInt32) &&& 858993459)).toUInt32 >>> ((4 : Int32).toUInt32 &&& Int32.toUInt32 31)).toInt32)) &&& 252645135).toUInt32 >>> ((8 : Int32).toUInt32 &&& Int32.toUInt32 31)).toInt32)) + ((((((((y - (((y.toUInt32 >>> ((1 : Int32).toUInt32 &&& Int32.toUInt32 31)).toInt32) &&& 1431655765)) &&& 858993459) + ((((y - (((y.toUInt32 >>> ((1 : Int32).toUInt32 &&& Int32.toUInt32 31)).toInt32) &&& 1431655765)).toUInt32 >>> ((2 : Int32).toUInt32 &&& Int32.toUInt32 31)).toInt32) &&& 858993459)) + (((((y - (((y.toUInt32 >>> ((1 : Int32).toUInt32 &&& Int32.toUInt32 31)).toInt32) &&& 1431655765)) &&& 858993459) + ((((y - (((y.toUInt32 >>> ((1 : Int32).toUInt32 &&& Int32.toUInt32 31)).toInt32) &&& 1431655765)).toUInt32 >>> ((2 : Int32).toUInt32 &&& Int32.toUInt32 31)).toInt32) &&& 858993459)).toUInt32 >>> ((4 : Int32).toUInt32 &&& Int32.toUInt32 31)).toInt32)) &&& 252645135) + (((((((y - (((y.toUInt32 >>> ((1 : Int32).toUInt32 &&& Int32.toUInt32 31)).toInt32) &&& 1431655765)) &&& 858993459) + ((((y - (((y.toUInt32 >>> ((1 : Int32).toUInt32 &&& Int32.toUInt32 31)).toInt32) &&& 1431655765)).toUInt32 >>> ((2 : Int32).toUInt32 &&& Int32.toUInt32 31)).toInt32) &&& 858993459)) + (((((y - (((y.toUInt32 >>> ((1 : Int32).toUInt32 &&& Int32.toUInt32 31)).toInt32) &&& 1431655765)) &&& 858993459) + ((((y - (((y.toUInt32 >>> ((1 : Int32).toUInt32 &&& Int32.toUInt32 31)).toInt32) &&& 1431655765)).toUInt32 >>> ((2 : Int32).toUInt32 &&& Int32.toUInt32 31)).toInt32) &&& 858993459)).toUInt32 >>> ((4 : Int32).toUInt32 &&& Int32.toUInt32 31)).toInt32)) &&& 252645135).toUInt32 >>> ((8 : Int32).toUInt32 &&& Int32.toUInt32 31)).toInt32)).toUInt32 >>> ((16 : Int32).toUInt32 &&& Int32.toUInt32 31)).toInt32)) &&& 63)], M)) rfl rfl rfl ?_
  exact ps_reti rfl (⟨_, rfl, rfl⟩)
set_option maxHeartbeats 1000000 in
theorem dk_codeAttributesHold {g : xe_G} {M : mi_H} {f : Nat → Int32} {n N q : Nat} {E : List (Nat × Nat)} {ac c b da vd fr mr fa ic mj na pa : Nat} {mi ru wa k1 k2 k3 k4 k5 k6 k7 : Int32} {s p1 e : Nat} (h_ac : M.1 ac = some (ob 0 [.ref c, .ref b, .ref q, .ref vd, .int (nI s)])) (h_b : M.1 b = some (ob 1 [.ref da])) (h_da : M.1 da = some (ar .byte n f)) (h_c : M.1 c = some (ob 3 [.ref b, .ref q, .int mi, .int (nI mj), .int (nI fa), .int (nI ic), .ref fr, .ref mr, .int (nI na), .int (nI pa), .int k1, .int k2, .int k3, .int k4, .int k5, .int k6, .int k7])) (h_vd : M.1 vd = some (ob 10 [.int ru, .int wa])) (hn : n ≤ 65540) (hmj : mj < 65536) (hs : s < 2048) (hin : p1 + 2 ≤ e ∧ e ≤ n) (hat : s_atE f e (by2 f p1) (p1 + 2) = some e) (hV : PV g f n N E q M) : pt (mT g) 28 [.ref ac, .int (nI p1)] M (fun v M' => (∃ (e9 : Nat × Nat), (caS f n E mj (by2 f p1) (p1 + 2) s = .inl e9) ∧ v = some (.int 0) ∧ M'.1 vd = some (ob 10 [.int (nI e9.1), .int (nI e9.2)]) ∧ fm [ac, vd] M M') ∨ (∃ (s' : Nat), (caS f n E mj (by2 f p1) (p1 + 2) s = .inr s') ∧ (s' < 2048) ∧ v = some (.int 1) ∧ M'.1 ac = some (ob 0 [.ref c, .ref b, .ref q, .ref vd, .int (nI s')]) ∧ M'.1 vd = some (ob 10 [.int ru, .int wa]) ∧ fm [ac, vd] M M')) := by
  refine pt_in (b := mb_28 g) rfl (fun kf => ?_)
  show pl (mT g) kf (mb_28 g).2 (0, [(0, .ref ac), (1, .int (nI p1))], [], M) _
  have hF : fm [ac, vd] M M := fm.rf
  have LL : ∀ (kf : Nat), (∀ (i p s2 : Nat) (M1 : mi_H), (M1.1 ac = some (ob 0 [.ref c, .ref b, .ref q, .ref vd, .int (nI s2)])) → (M1.1 b = some (ob 1 [.ref da])) → (M1.1 da = some (ar .byte n f)) → (M1.1 c = some (ob 3 [.ref b, .ref q, .int mi, .int (nI mj), .int (nI fa), .int (nI ic), .ref fr, .ref mr, .int (nI na), .int (nI pa), .int k1, .int k2, .int k3, .int k4, .int k5, .int k6, .int k7])) → (M1.1 vd = some (ob 10 [.int ru, .int wa])) → (PV g f n N E q M1) → (fm [ac, vd] M M1) → (i ≤ by2 f p1) → (s2 < 2048) → (s_atE f e (by2 f p1 - i) p = some e) → (caS f n E mj (by2 f p1 - i) p s2 = caS f n E mj (by2 f p1) (p1 + 2) s) →  pl (mT g) kf (mb_28 g).2 (16, [(0, .ref ac), (2, .int (nI (by2 f p1))), (3, .int (nI p)), (4, .int (nI i))], [], M1) (fun v M' => (∃ (e9 : Nat × Nat), (caS f n E mj (by2 f p1) (p1 + 2) s = .inl e9) ∧ v = some (.int 0) ∧ M'.1 vd = some (ob 10 [.int (nI e9.1), .int (nI e9.2)]) ∧ fm [ac, vd] M M') ∨ (∃ (s' : Nat), (caS f n E mj (by2 f p1) (p1 + 2) s = .inr s') ∧ (s' < 2048) ∧ v = some (.int 1) ∧ M'.1 ac = some (ob 0 [.ref c, .ref b, .ref q, .ref vd, .int (nI s')]) ∧ M'.1 vd = some (ob 10 [.int ru, .int wa]) ∧ fm [ac, vd] M M'))) := by
    intro kf
    induction kf with
    | zero => exact (by intros; exact pl_0)
    | succ kf ih =>
      intro i p s2 M1 hl_ac hl_b hl_da hl_c hl_vd hV1 hF1 hi hl ha hs9
      have hu9 := by2_lt f p1
      refine ps_st1 (S' := (18, [(0, .ref ac), (2, .int (nI (by2 f p1))), (3, .int (nI p)), (4, .int (nI i))], [.int (nI i)], M1)) rfl rfl rfl ?_
      refine ps_st (S' := (19, [(0, .ref ac), (2, .int (nI (by2 f p1))), (3, .int (nI p)), (4, .int (nI i))], [.int (nI (by2 f p1)), .int (nI i)], M1)) rfl rfl rfl ?_
      refine ps_if2 (S1 := (93, [(0, .ref ac), (2, .int (nI (by2 f p1))), (3, .int (nI p)), (4, .int (nI i))], [], M1)) (S2 := (22, [(0, .ref ac), (2, .int (nI (by2 f p1))), (3, .int (nI p)), (4, .int (nI i))], [], M1)) rfl rfl rfl (fun c_19 => ?_) (fun c_19 => ?_)
      · have c_19 : (nI (by2 f p1)) ≤ (nI i) := of_decide_eq_true c_19
        have n_19 : by2 f p1 ≤ i := (le_nI (p := by2 f p1) (n := i) (Nat.lt_trans (by2_lt _ _) (by decide)) (by omega)).mp c_19
        refine ps_st (S' := (94, [(0, .ref ac), (2, .int (nI (by2 f p1))), (3, .int (nI p)), (4, .int (nI i))], [.int 1], M1)) rfl rfl rfl ?_
        exact ps_ret rfl rfl (Or.inr ⟨s2, by rw [← hs9, show by2 f p1 - i = 0 by omega]; rfl, hl, rfl, hl_ac, hl_vd, hF1⟩)
      · have c_19 : ¬ ((nI (by2 f p1)) ≤ (nI i)) := of_decide_eq_false c_19
        have n_19 : ¬ (by2 f p1 ≤ i) := fun h9 => c_19 ((le_nI (p := by2 f p1) (n := i) (Nat.lt_trans (by2_lt _ _) (by decide)) (by omega)).mpr h9)
        obtain ⟨hq5, hq6, hq7⟩ := s_atE_in (i := i) (p := p) ha (by omega)
        refine ps_st (S' := (23, [(0, .ref ac), (2, .int (nI (by2 f p1))), (3, .int (nI p)), (4, .int (nI i))], [.ref ac], M1)) rfl rfl rfl ?_
        refine ps_get (S' := (26, [(0, .ref ac), (2, .int (nI (by2 f p1))), (3, .int (nI p)), (4, .int (nI i))], [.ref c], M1)) rfl hl_ac rfl rfl ?_
        refine ps_get (S' := (29, [(0, .ref ac), (2, .int (nI (by2 f p1))), (3, .int (nI p)), (4, .int (nI i))], [.int (nI mj)], M1)) rfl hl_c rfl rfl ?_
        refine ps_st (S' := (31, [(0, .ref ac), (2, .int (nI (by2 f p1))), (3, .int (nI p)), (4, .int (nI i))], [.int 50, .int (nI mj)], M1)) rfl rfl rfl ?_
        refine ps_if2 (S1 := (58, [(0, .ref ac), (2, .int (nI (by2 f p1))), (3, .int (nI p)), (4, .int (nI i))], [], M1)) (S2 := (34, [(0, .ref ac), (2, .int (nI (by2 f p1))), (3, .int (nI p)), (4, .int (nI i))], [], M1)) rfl rfl rfl (fun c_31 => ?_) (fun c_31 => ?_)
        · have c_31 : (nI mj) < 50 := of_decide_eq_true c_31
          have n_31 : mj < 50 := (lt_nI (p := mj) (n := 50) (by omega) (by decide)).mp c_31
          refine ps_st (S' := (59, [(0, .ref ac), (2, .int (nI (by2 f p1))), (3, .int (nI p)), (4, .int (nI i))], [.int 0], M1)) rfl rfl rfl ?_
          refine ps_st (S' := (61, [(5, .int 0), (0, .ref ac), (2, .int (nI (by2 f p1))), (3, .int (nI p)), (4, .int (nI i))], [], M1)) rfl rfl rfl ?_
          refine ps_st (S' := (62, [(5, .int 0), (0, .ref ac), (2, .int (nI (by2 f p1))), (3, .int (nI p)), (4, .int (nI i))], [.ref ac], M1)) rfl rfl rfl ?_
          refine ps_st (S' := (63, [(5, .int 0), (0, .ref ac), (2, .int (nI (by2 f p1))), (3, .int (nI p)), (4, .int (nI i))], [.int (nI p), .ref ac], M1)) rfl rfl rfl ?_
          refine ps_st (S' := (65, [(5, .int 0), (0, .ref ac), (2, .int (nI (by2 f p1))), (3, .int (nI p)), (4, .int (nI i))], [.int 0, .int (nI p), .ref ac], M1)) rfl rfl rfl ?_
          refine ps_if (S1 := (72, [(5, .int 0), (0, .ref ac), (2, .int (nI (by2 f p1))), (3, .int (nI p)), (4, .int (nI i))], [.int (nI p), .ref ac], M1)) (S2 := (68, [(5, .int 0), (0, .ref ac), (2, .int (nI (by2 f p1))), (3, .int (nI p)), (4, .int (nI i))], [.int (nI p), .ref ac], M1)) rfl rfl rfl (fun c_65 => ?_) (fun c_65 => ?_)
          rotate_left
          · exact absurd (by decide) (of_decide_eq_false c_65)
          refine ps_st (S' := (73, [(0, .ref ac), (2, .int (nI (by2 f p1))), (3, .int (nI p)), (4, .int (nI i))], [.int 0, .int (nI p), .ref ac], M1)) rfl rfl rfl ?_
          have hk9 : smN4 f n E mj (by2 f p) = 0 := by
            unfold smN4
            first | ((repeat first | rw [if_pos (by omega)] | rw [if_neg (by omega)]) <;> first | rfl | omega) | ((repeat' split) <;> first | rfl | (exfalso; omega) | omega)
          refine pl_call (a := [.ref ac, .int (nI p), .int 0]) (rest := []) rfl rfl rfl (dk_isNew (f := f) (n := n) (N := N) (q := q) (E := E) (ac := ac) (c := c) (b := b) (da := da) (vd := vd) (fr := fr) (mr := mr) (fa := fa) (ic := ic) (mj := mj) (na := na) (pa := pa) (mi := mi) (ru := ru) (wa := wa) (k1 := k1) (k2 := k2) (k3 := k3) (k4 := k4) (k5 := k5) (k6 := k6) (k7 := k7) (s := s2) (k := 0) (p := p) hl_ac hl_b hl_da hl_vd (hn) (by omega) (by omega) (by omega) (hV1)) (fun v1 M2 q3 => ?_)
          rcases q3 with q3 | q3
          · skip
            obtain ⟨e4, q73_s, rfl, h5, f6⟩ := q3
            have h8 := (f6.1 b (nin2 (ob_ne hl_b hl_ac (by decide)) (ob_ne hl_b hl_vd (by decide)))).trans hl_b
            have h9 := (f6.1 da (nin2 (Ne.symm (ob_ar hl_ac hl_da)) (Ne.symm (ob_ar hl_vd hl_da)))).trans hl_da
            have h10 := (f6.1 c (nin2 (ob_ne hl_c hl_ac (by decide)) (ob_ne hl_c hl_vd (by decide)))).trans hl_c
            have hF11 := hF1.tr f6 (by simp)
            have hV12 := hV1.keep f6.gm (n7c hl_ac (by decide) (n7c hl_vd (by decide) (n7nil)))
            show pl _ _ _ (76, [(0, .ref ac), (2, .int (nI (by2 f p1))), (3, .int (nI p)), (4, .int (nI i))], [.int 0], M2) _
            refine ps_if (S1 := (81, [(0, .ref ac), (2, .int (nI (by2 f p1))), (3, .int (nI p)), (4, .int (nI i))], [], M2)) (S2 := (79, [(0, .ref ac), (2, .int (nI (by2 f p1))), (3, .int (nI p)), (4, .int (nI i))], [], M2)) rfl rfl rfl (fun c_76 => ?_) (fun c_76 => ?_)
            · exact absurd (of_decide_eq_true c_76) (by decide)
            refine ps_st (S' := (80, [(0, .ref ac), (2, .int (nI (by2 f p1))), (3, .int (nI p)), (4, .int (nI i))], [.int 0], M2)) rfl rfl rfl ?_
            exact ps_ret rfl rfl (Or.inl ⟨e4, by rw [← hs9, caS_st (i := i) (by omega), hk9, q73_s], rfl, h5, hF11⟩)
          · skip
            obtain ⟨s'13, q73_s, q73_l, rfl, h14, h15, f16⟩ := q3
            have h18 := (f16.1 b (nin2 (ob_ne hl_b hl_ac (by decide)) (ob_ne hl_b hl_vd (by decide)))).trans hl_b
            have h19 := (f16.1 da (nin2 (Ne.symm (ob_ar hl_ac hl_da)) (Ne.symm (ob_ar hl_vd hl_da)))).trans hl_da
            have h20 := (f16.1 c (nin2 (ob_ne hl_c hl_ac (by decide)) (ob_ne hl_c hl_vd (by decide)))).trans hl_c
            have hF21 := hF1.tr f16 (by simp)
            have hV22 := hV1.keep f16.gm (n7c hl_ac (by decide) (n7c hl_vd (by decide) (n7nil)))
            show pl _ _ _ (76, [(0, .ref ac), (2, .int (nI (by2 f p1))), (3, .int (nI p)), (4, .int (nI i))], [.int 1], M2) _
            refine ps_if (S1 := (81, [(0, .ref ac), (2, .int (nI (by2 f p1))), (3, .int (nI p)), (4, .int (nI i))], [], M2)) (S2 := (79, [(0, .ref ac), (2, .int (nI (by2 f p1))), (3, .int (nI p)), (4, .int (nI i))], [], M2)) rfl rfl rfl (fun c_76 => ?_) (fun c_76 => ?_)
            rotate_left
            · exact absurd (by decide) (of_decide_eq_false c_76)
            refine ps_st (S' := (82, [(0, .ref ac), (2, .int (nI (by2 f p1))), (3, .int (nI p)), (4, .int (nI i))], [.ref ac], M2)) rfl rfl rfl ?_
            refine ps_st (S' := (83, [(0, .ref ac), (2, .int (nI (by2 f p1))), (3, .int (nI p)), (4, .int (nI i))], [.int (nI p), .ref ac], M2)) rfl rfl rfl ?_
            refine pl_call (a := [.ref ac, .int (nI p)]) (rest := []) rfl rfl rfl (dk_behind (f := f) (n := n) (q := q) (ac := ac) (c := c) (b := b) (da := da) (vd := vd) (s1 := (nI s'13)) (p := p) h14 h18 h19 (hn) (by omega)) (fun v23 M24 q25 => ?_)
            obtain ⟨rfl, rfl⟩ := q25
            show pl _ _ _ (86, [(0, .ref ac), (2, .int (nI (by2 f p1))), (3, .int (nI p)), (4, .int (nI i))], [.int (nI (p + 6 + by4 f (p + 2)))], M2) _
            refine ps_st (S' := (87, [(3, .int (nI (p + 6 + by4 f (p + 2)))), (0, .ref ac), (2, .int (nI (by2 f p1))), (4, .int (nI i))], [], M2)) rfl rfl rfl ?_
            refine ps_st (S' := (90, [(4, .int ((nI i) + 1)), (3, .int (nI (p + 6 + by4 f (p + 2)))), (0, .ref ac), (2, .int (nI (by2 f p1)))], [], M2)) rfl rfl rfl ?_
            rw [nI_add1 (p := i) (k := 1) (x := 1) rfl (by omega)]
            show pl _ _ _ (_, [(4, .int (nI (i + 1))), (3, .int (nI (p + 6 + by4 f (p + 2)))), (0, .ref ac), (2, .int (nI (by2 f p1)))], [], M2) _
            refine ps_st (S' := (16, [(0, .ref ac), (2, .int (nI (by2 f p1))), (3, .int (nI (p + 6 + by4 f (p + 2)))), (4, .int (nI (i + 1)))], [], M2)) rfl rfl rfl ?_
            exact ih (i + 1) (p + 6 + by4 f (p + 2)) ((s'13)) M2 h14 h18 h19 h20 h15 hV22 hF21 (by omega) (q73_l) (hq7) (by
                rw [← hs9, caS_st (i := i) (by omega), hk9, q73_s])
        · have c_31 : ¬ ((nI mj) < 50) := of_decide_eq_false c_31
          have n_31 : ¬ (mj < 50) := fun h9 => c_31 ((lt_nI (p := mj) (n := 50) (by omega) (by decide)).mpr h9)
          refine ps_st (S' := (35, [(0, .ref ac), (2, .int (nI (by2 f p1))), (3, .int (nI p)), (4, .int (nI i))], [.ref ac], M1)) rfl rfl rfl ?_
          refine ps_get (S' := (38, [(0, .ref ac), (2, .int (nI (by2 f p1))), (3, .int (nI p)), (4, .int (nI i))], [.ref q], M1)) rfl hl_ac rfl rfl ?_
          refine ps_st (S' := (39, [(0, .ref ac), (2, .int (nI (by2 f p1))), (3, .int (nI p)), (4, .int (nI i))], [.ref ac, .ref q], M1)) rfl rfl rfl ?_
          refine ps_get (S' := (42, [(0, .ref ac), (2, .int (nI (by2 f p1))), (3, .int (nI p)), (4, .int (nI i))], [.ref b, .ref q], M1)) rfl hl_ac rfl rfl ?_
          refine ps_st (S' := (43, [(0, .ref ac), (2, .int (nI (by2 f p1))), (3, .int (nI p)), (4, .int (nI i))], [.int (nI p), .ref b, .ref q], M1)) rfl rfl rfl ?_
          refine pl_call (a := [.ref b, .int (nI p)]) (rest := [.ref q]) rfl rfl rfl (dk_u2 (f := f) (n := n) (b := b) (da := da) (p := p) hl_b hl_da (hn) (by omega)) (fun v26 M27 q28 => ?_)
          obtain ⟨rfl, rfl⟩ := q28
          show pl _ _ _ (46, [(0, .ref ac), (2, .int (nI (by2 f p1))), (3, .int (nI p)), (4, .int (nI i))], [.int (nI (by2 f p)), .ref q], M1) _
          have hu_43 := by2_lt f p
          refine ps_st (S' := (48, [(0, .ref ac), (2, .int (nI (by2 f p1))), (3, .int (nI p)), (4, .int (nI i))], [.ref (g.2.1 10), .int (nI (by2 f p)), .ref q], M1)) rfl rfl rfl ?_
          refine pl_call (a := [.ref q, .int (nI (by2 f p)), .ref (g.2.1 10)]) (rest := []) rfl rfl rfl (dy_textIs (f := f) (n := n) (N := N) (q := q) (E := E) (j := (by2 f p)) (k := 10) (hV1) (by2_lt _ _) (by decide)) (fun v29 M30 q31 => ?_)
          obtain ⟨rfl, rfl⟩ := q31
          show pl _ _ _ (51, [(0, .ref ac), (2, .int (nI (by2 f p1))), (3, .int (nI p)), (4, .int (nI i))], [.int (nI (eqN (tX f n E (by2 f p)) (ltx 10)))], M1) _
          refine ps_if (S1 := (58, [(0, .ref ac), (2, .int (nI (by2 f p1))), (3, .int (nI p)), (4, .int (nI i))], [], M1)) (S2 := (54, [(0, .ref ac), (2, .int (nI (by2 f p1))), (3, .int (nI p)), (4, .int (nI i))], [], M1)) rfl rfl rfl (fun c_51 => ?_) (fun c_51 => ?_)
          · have c_51 : (nI (eqN (tX f n E (by2 f p)) (ltx 10))) = 0 := of_decide_eq_true c_51
            have n_51 : eqN (tX f n E (by2 f p)) (ltx 10) = 0 := (eq_nI (p := eqN (tX f n E (by2 f p)) (ltx 10)) (n := 0) (Nat.lt_trans (le1_eq _ _) (by decide)) (by decide)).mp c_51
            refine ps_st (S' := (59, [(0, .ref ac), (2, .int (nI (by2 f p1))), (3, .int (nI p)), (4, .int (nI i))], [.int 0], M1)) rfl rfl rfl ?_
            refine ps_st (S' := (61, [(5, .int 0), (0, .ref ac), (2, .int (nI (by2 f p1))), (3, .int (nI p)), (4, .int (nI i))], [], M1)) rfl rfl rfl ?_
            refine ps_st (S' := (62, [(5, .int 0), (0, .ref ac), (2, .int (nI (by2 f p1))), (3, .int (nI p)), (4, .int (nI i))], [.ref ac], M1)) rfl rfl rfl ?_
            refine ps_st (S' := (63, [(5, .int 0), (0, .ref ac), (2, .int (nI (by2 f p1))), (3, .int (nI p)), (4, .int (nI i))], [.int (nI p), .ref ac], M1)) rfl rfl rfl ?_
            refine ps_st (S' := (65, [(5, .int 0), (0, .ref ac), (2, .int (nI (by2 f p1))), (3, .int (nI p)), (4, .int (nI i))], [.int 0, .int (nI p), .ref ac], M1)) rfl rfl rfl ?_
            refine ps_if (S1 := (72, [(5, .int 0), (0, .ref ac), (2, .int (nI (by2 f p1))), (3, .int (nI p)), (4, .int (nI i))], [.int (nI p), .ref ac], M1)) (S2 := (68, [(5, .int 0), (0, .ref ac), (2, .int (nI (by2 f p1))), (3, .int (nI p)), (4, .int (nI i))], [.int (nI p), .ref ac], M1)) rfl rfl rfl (fun c_65 => ?_) (fun c_65 => ?_)
            rotate_left
            · exact absurd (by decide) (of_decide_eq_false c_65)
            refine ps_st (S' := (73, [(0, .ref ac), (2, .int (nI (by2 f p1))), (3, .int (nI p)), (4, .int (nI i))], [.int 0, .int (nI p), .ref ac], M1)) rfl rfl rfl ?_
            have hk9 : smN4 f n E mj (by2 f p) = 0 := by
              unfold smN4
              first | ((repeat first | rw [if_pos (by omega)] | rw [if_neg (by omega)]) <;> first | rfl | omega) | ((repeat' split) <;> first | rfl | (exfalso; omega) | omega)
            refine pl_call (a := [.ref ac, .int (nI p), .int 0]) (rest := []) rfl rfl rfl (dk_isNew (f := f) (n := n) (N := N) (q := q) (E := E) (ac := ac) (c := c) (b := b) (da := da) (vd := vd) (fr := fr) (mr := mr) (fa := fa) (ic := ic) (mj := mj) (na := na) (pa := pa) (mi := mi) (ru := ru) (wa := wa) (k1 := k1) (k2 := k2) (k3 := k3) (k4 := k4) (k5 := k5) (k6 := k6) (k7 := k7) (s := s2) (k := 0) (p := p) hl_ac hl_b hl_da hl_vd (hn) (by omega) (by omega) (by omega) (hV1)) (fun v32 M33 q34 => ?_)
            rcases q34 with q34 | q34
            · skip
              obtain ⟨e35, q73_s, rfl, h36, f37⟩ := q34
              have h39 := (f37.1 b (nin2 (ob_ne hl_b hl_ac (by decide)) (ob_ne hl_b hl_vd (by decide)))).trans hl_b
              have h40 := (f37.1 da (nin2 (Ne.symm (ob_ar hl_ac hl_da)) (Ne.symm (ob_ar hl_vd hl_da)))).trans hl_da
              have h41 := (f37.1 c (nin2 (ob_ne hl_c hl_ac (by decide)) (ob_ne hl_c hl_vd (by decide)))).trans hl_c
              have hF42 := hF1.tr f37 (by simp)
              have hV43 := hV1.keep f37.gm (n7c hl_ac (by decide) (n7c hl_vd (by decide) (n7nil)))
              show pl _ _ _ (76, [(0, .ref ac), (2, .int (nI (by2 f p1))), (3, .int (nI p)), (4, .int (nI i))], [.int 0], M33) _
              refine ps_if (S1 := (81, [(0, .ref ac), (2, .int (nI (by2 f p1))), (3, .int (nI p)), (4, .int (nI i))], [], M33)) (S2 := (79, [(0, .ref ac), (2, .int (nI (by2 f p1))), (3, .int (nI p)), (4, .int (nI i))], [], M33)) rfl rfl rfl (fun c_76 => ?_) (fun c_76 => ?_)
              · exact absurd (of_decide_eq_true c_76) (by decide)
              refine ps_st (S' := (80, [(0, .ref ac), (2, .int (nI (by2 f p1))), (3, .int (nI p)), (4, .int (nI i))], [.int 0], M33)) rfl rfl rfl ?_
              exact ps_ret rfl rfl (Or.inl ⟨e35, by rw [← hs9, caS_st (i := i) (by omega), hk9, q73_s], rfl, h36, hF42⟩)
            · skip
              obtain ⟨s'44, q73_s, q73_l, rfl, h45, h46, f47⟩ := q34
              have h49 := (f47.1 b (nin2 (ob_ne hl_b hl_ac (by decide)) (ob_ne hl_b hl_vd (by decide)))).trans hl_b
              have h50 := (f47.1 da (nin2 (Ne.symm (ob_ar hl_ac hl_da)) (Ne.symm (ob_ar hl_vd hl_da)))).trans hl_da
              have h51 := (f47.1 c (nin2 (ob_ne hl_c hl_ac (by decide)) (ob_ne hl_c hl_vd (by decide)))).trans hl_c
              have hF52 := hF1.tr f47 (by simp)
              have hV53 := hV1.keep f47.gm (n7c hl_ac (by decide) (n7c hl_vd (by decide) (n7nil)))
              show pl _ _ _ (76, [(0, .ref ac), (2, .int (nI (by2 f p1))), (3, .int (nI p)), (4, .int (nI i))], [.int 1], M33) _
              refine ps_if (S1 := (81, [(0, .ref ac), (2, .int (nI (by2 f p1))), (3, .int (nI p)), (4, .int (nI i))], [], M33)) (S2 := (79, [(0, .ref ac), (2, .int (nI (by2 f p1))), (3, .int (nI p)), (4, .int (nI i))], [], M33)) rfl rfl rfl (fun c_76 => ?_) (fun c_76 => ?_)
              rotate_left
              · exact absurd (by decide) (of_decide_eq_false c_76)
              refine ps_st (S' := (82, [(0, .ref ac), (2, .int (nI (by2 f p1))), (3, .int (nI p)), (4, .int (nI i))], [.ref ac], M33)) rfl rfl rfl ?_
              refine ps_st (S' := (83, [(0, .ref ac), (2, .int (nI (by2 f p1))), (3, .int (nI p)), (4, .int (nI i))], [.int (nI p), .ref ac], M33)) rfl rfl rfl ?_
              refine pl_call (a := [.ref ac, .int (nI p)]) (rest := []) rfl rfl rfl (dk_behind (f := f) (n := n) (q := q) (ac := ac) (c := c) (b := b) (da := da) (vd := vd) (s1 := (nI s'44)) (p := p) h45 h49 h50 (hn) (by omega)) (fun v54 M55 q56 => ?_)
              obtain ⟨rfl, rfl⟩ := q56
              show pl _ _ _ (86, [(0, .ref ac), (2, .int (nI (by2 f p1))), (3, .int (nI p)), (4, .int (nI i))], [.int (nI (p + 6 + by4 f (p + 2)))], M33) _
              refine ps_st (S' := (87, [(3, .int (nI (p + 6 + by4 f (p + 2)))), (0, .ref ac), (2, .int (nI (by2 f p1))), (4, .int (nI i))], [], M33)) rfl rfl rfl ?_
              refine ps_st (S' := (90, [(4, .int ((nI i) + 1)), (3, .int (nI (p + 6 + by4 f (p + 2)))), (0, .ref ac), (2, .int (nI (by2 f p1)))], [], M33)) rfl rfl rfl ?_
              rw [nI_add1 (p := i) (k := 1) (x := 1) rfl (by omega)]
              show pl _ _ _ (_, [(4, .int (nI (i + 1))), (3, .int (nI (p + 6 + by4 f (p + 2)))), (0, .ref ac), (2, .int (nI (by2 f p1)))], [], M33) _
              refine ps_st (S' := (16, [(0, .ref ac), (2, .int (nI (by2 f p1))), (3, .int (nI (p + 6 + by4 f (p + 2)))), (4, .int (nI (i + 1)))], [], M33)) rfl rfl rfl ?_
              exact ih (i + 1) (p + 6 + by4 f (p + 2)) ((s'44)) M33 h45 h49 h50 h51 h46 hV53 hF52 (by omega) (q73_l) (hq7) (by
                  rw [← hs9, caS_st (i := i) (by omega), hk9, q73_s])
          · have c_51 : ¬ ((nI (eqN (tX f n E (by2 f p)) (ltx 10))) = 0) := of_decide_eq_false c_51
            have n_51 : ¬ (eqN (tX f n E (by2 f p)) (ltx 10) = 0) := fun h9 => c_51 ((eq_nI (p := eqN (tX f n E (by2 f p)) (ltx 10)) (n := 0) (Nat.lt_trans (le1_eq _ _) (by decide)) (by decide)).mpr h9)
            refine ps_st (S' := (55, [(0, .ref ac), (2, .int (nI (by2 f p1))), (3, .int (nI p)), (4, .int (nI i))], [.int 1], M1)) rfl rfl rfl ?_
            refine ps_st (S' := (59, [(0, .ref ac), (2, .int (nI (by2 f p1))), (3, .int (nI p)), (4, .int (nI i))], [.int 1], M1)) rfl rfl rfl ?_
            refine ps_st (S' := (61, [(5, .int 1), (0, .ref ac), (2, .int (nI (by2 f p1))), (3, .int (nI p)), (4, .int (nI i))], [], M1)) rfl rfl rfl ?_
            refine ps_st (S' := (62, [(5, .int 1), (0, .ref ac), (2, .int (nI (by2 f p1))), (3, .int (nI p)), (4, .int (nI i))], [.ref ac], M1)) rfl rfl rfl ?_
            refine ps_st (S' := (63, [(5, .int 1), (0, .ref ac), (2, .int (nI (by2 f p1))), (3, .int (nI p)), (4, .int (nI i))], [.int (nI p), .ref ac], M1)) rfl rfl rfl ?_
            refine ps_st (S' := (65, [(5, .int 1), (0, .ref ac), (2, .int (nI (by2 f p1))), (3, .int (nI p)), (4, .int (nI i))], [.int 1, .int (nI p), .ref ac], M1)) rfl rfl rfl ?_
            refine ps_if (S1 := (72, [(5, .int 1), (0, .ref ac), (2, .int (nI (by2 f p1))), (3, .int (nI p)), (4, .int (nI i))], [.int (nI p), .ref ac], M1)) (S2 := (68, [(5, .int 1), (0, .ref ac), (2, .int (nI (by2 f p1))), (3, .int (nI p)), (4, .int (nI i))], [.int (nI p), .ref ac], M1)) rfl rfl rfl (fun c_65 => ?_) (fun c_65 => ?_)
            · exact absurd (of_decide_eq_true c_65) (by decide)
            refine ps_st (S' := (69, [(5, .int 1), (0, .ref ac), (2, .int (nI (by2 f p1))), (3, .int (nI p)), (4, .int (nI i))], [.int 4, .int (nI p), .ref ac], M1)) rfl rfl rfl ?_
            refine ps_st (S' := (73, [(0, .ref ac), (2, .int (nI (by2 f p1))), (3, .int (nI p)), (4, .int (nI i))], [.int 4, .int (nI p), .ref ac], M1)) rfl rfl rfl ?_
            have hk9 : smN4 f n E mj (by2 f p) = 4 := by
              unfold smN4
              first | ((repeat first | rw [if_pos (by omega)] | rw [if_neg (by omega)]) <;> first | rfl | omega) | ((repeat' split) <;> first | rfl | (exfalso; omega) | omega)
            refine pl_call (a := [.ref ac, .int (nI p), .int 4]) (rest := []) rfl rfl rfl (dk_isNew (f := f) (n := n) (N := N) (q := q) (E := E) (ac := ac) (c := c) (b := b) (da := da) (vd := vd) (fr := fr) (mr := mr) (fa := fa) (ic := ic) (mj := mj) (na := na) (pa := pa) (mi := mi) (ru := ru) (wa := wa) (k1 := k1) (k2 := k2) (k3 := k3) (k4 := k4) (k5 := k5) (k6 := k6) (k7 := k7) (s := s2) (k := 4) (p := p) hl_ac hl_b hl_da hl_vd (hn) (by omega) (by omega) (by omega) (hV1)) (fun v57 M58 q59 => ?_)
            rcases q59 with q59 | q59
            · skip
              obtain ⟨e60, q73_s, rfl, h61, f62⟩ := q59
              have h64 := (f62.1 b (nin2 (ob_ne hl_b hl_ac (by decide)) (ob_ne hl_b hl_vd (by decide)))).trans hl_b
              have h65 := (f62.1 da (nin2 (Ne.symm (ob_ar hl_ac hl_da)) (Ne.symm (ob_ar hl_vd hl_da)))).trans hl_da
              have h66 := (f62.1 c (nin2 (ob_ne hl_c hl_ac (by decide)) (ob_ne hl_c hl_vd (by decide)))).trans hl_c
              have hF67 := hF1.tr f62 (by simp)
              have hV68 := hV1.keep f62.gm (n7c hl_ac (by decide) (n7c hl_vd (by decide) (n7nil)))
              show pl _ _ _ (76, [(0, .ref ac), (2, .int (nI (by2 f p1))), (3, .int (nI p)), (4, .int (nI i))], [.int 0], M58) _
              refine ps_if (S1 := (81, [(0, .ref ac), (2, .int (nI (by2 f p1))), (3, .int (nI p)), (4, .int (nI i))], [], M58)) (S2 := (79, [(0, .ref ac), (2, .int (nI (by2 f p1))), (3, .int (nI p)), (4, .int (nI i))], [], M58)) rfl rfl rfl (fun c_76 => ?_) (fun c_76 => ?_)
              · exact absurd (of_decide_eq_true c_76) (by decide)
              refine ps_st (S' := (80, [(0, .ref ac), (2, .int (nI (by2 f p1))), (3, .int (nI p)), (4, .int (nI i))], [.int 0], M58)) rfl rfl rfl ?_
              exact ps_ret rfl rfl (Or.inl ⟨e60, by rw [← hs9, caS_st (i := i) (by omega), hk9, q73_s], rfl, h61, hF67⟩)
            · skip
              obtain ⟨s'69, q73_s, q73_l, rfl, h70, h71, f72⟩ := q59
              have h74 := (f72.1 b (nin2 (ob_ne hl_b hl_ac (by decide)) (ob_ne hl_b hl_vd (by decide)))).trans hl_b
              have h75 := (f72.1 da (nin2 (Ne.symm (ob_ar hl_ac hl_da)) (Ne.symm (ob_ar hl_vd hl_da)))).trans hl_da
              have h76 := (f72.1 c (nin2 (ob_ne hl_c hl_ac (by decide)) (ob_ne hl_c hl_vd (by decide)))).trans hl_c
              have hF77 := hF1.tr f72 (by simp)
              have hV78 := hV1.keep f72.gm (n7c hl_ac (by decide) (n7c hl_vd (by decide) (n7nil)))
              show pl _ _ _ (76, [(0, .ref ac), (2, .int (nI (by2 f p1))), (3, .int (nI p)), (4, .int (nI i))], [.int 1], M58) _
              refine ps_if (S1 := (81, [(0, .ref ac), (2, .int (nI (by2 f p1))), (3, .int (nI p)), (4, .int (nI i))], [], M58)) (S2 := (79, [(0, .ref ac), (2, .int (nI (by2 f p1))), (3, .int (nI p)), (4, .int (nI i))], [], M58)) rfl rfl rfl (fun c_76 => ?_) (fun c_76 => ?_)
              rotate_left
              · exact absurd (by decide) (of_decide_eq_false c_76)
              refine ps_st (S' := (82, [(0, .ref ac), (2, .int (nI (by2 f p1))), (3, .int (nI p)), (4, .int (nI i))], [.ref ac], M58)) rfl rfl rfl ?_
              refine ps_st (S' := (83, [(0, .ref ac), (2, .int (nI (by2 f p1))), (3, .int (nI p)), (4, .int (nI i))], [.int (nI p), .ref ac], M58)) rfl rfl rfl ?_
              refine pl_call (a := [.ref ac, .int (nI p)]) (rest := []) rfl rfl rfl (dk_behind (f := f) (n := n) (q := q) (ac := ac) (c := c) (b := b) (da := da) (vd := vd) (s1 := (nI s'69)) (p := p) h70 h74 h75 (hn) (by omega)) (fun v79 M80 q81 => ?_)
              obtain ⟨rfl, rfl⟩ := q81
              show pl _ _ _ (86, [(0, .ref ac), (2, .int (nI (by2 f p1))), (3, .int (nI p)), (4, .int (nI i))], [.int (nI (p + 6 + by4 f (p + 2)))], M58) _
              refine ps_st (S' := (87, [(3, .int (nI (p + 6 + by4 f (p + 2)))), (0, .ref ac), (2, .int (nI (by2 f p1))), (4, .int (nI i))], [], M58)) rfl rfl rfl ?_
              refine ps_st (S' := (90, [(4, .int ((nI i) + 1)), (3, .int (nI (p + 6 + by4 f (p + 2)))), (0, .ref ac), (2, .int (nI (by2 f p1)))], [], M58)) rfl rfl rfl ?_
              rw [nI_add1 (p := i) (k := 1) (x := 1) rfl (by omega)]
              show pl _ _ _ (_, [(4, .int (nI (i + 1))), (3, .int (nI (p + 6 + by4 f (p + 2)))), (0, .ref ac), (2, .int (nI (by2 f p1)))], [], M58) _
              refine ps_st (S' := (16, [(0, .ref ac), (2, .int (nI (by2 f p1))), (3, .int (nI (p + 6 + by4 f (p + 2)))), (4, .int (nI (i + 1)))], [], M58)) rfl rfl rfl ?_
              exact ih (i + 1) (p + 6 + by4 f (p + 2)) ((s'69)) M58 h70 h74 h75 h76 h71 hV78 hF77 (by omega) (q73_l) (hq7) (by
                  rw [← hs9, caS_st (i := i) (by omega), hk9, q73_s])
  refine ps_st (S' := (1, [(0, .ref ac), (1, .int (nI p1))], [.ref ac], M)) rfl rfl rfl ?_
  refine ps_get (S' := (4, [(0, .ref ac), (1, .int (nI p1))], [.ref b], M)) rfl h_ac rfl rfl ?_
  refine ps_st (S' := (5, [(0, .ref ac), (1, .int (nI p1))], [.int (nI p1), .ref b], M)) rfl rfl rfl ?_
  refine pl_call (a := [.ref b, .int (nI p1)]) (rest := []) rfl rfl rfl (dk_u2 (f := f) (n := n) (b := b) (da := da) (p := p1) h_b h_da (hn) (by omega)) (fun v82 M83 q84 => ?_)
  obtain ⟨rfl, rfl⟩ := q84
  show pl _ _ _ (8, [(0, .ref ac), (1, .int (nI p1))], [.int (nI (by2 f p1))], M) _
  have hu_5 := by2_lt f p1
  refine ps_st (S' := (9, [(2, .int (nI (by2 f p1))), (0, .ref ac), (1, .int (nI p1))], [], M)) rfl rfl rfl ?_
  refine ps_st (S' := (10, [(2, .int (nI (by2 f p1))), (0, .ref ac), (1, .int (nI p1))], [.int (nI p1)], M)) rfl rfl rfl ?_
  refine ps_st (S' := (11, [(2, .int (nI (by2 f p1))), (0, .ref ac), (1, .int (nI p1))], [.int 2, .int (nI p1)], M)) rfl rfl rfl ?_
  refine ps_st (S' := (12, [(2, .int (nI (by2 f p1))), (0, .ref ac), (1, .int (nI p1))], [.int ((nI p1) + 2)], M)) rfl rfl rfl ?_
  rw [nI_add1 (p := p1) (k := 2) (x := 2) rfl (by omega)]
  show pl _ _ _ (_, [(2, .int (nI (by2 f p1))), (0, .ref ac), (1, .int (nI p1))], [.int (nI (p1 + 2))], M) _
  refine ps_st (S' := (13, [(3, .int (nI (p1 + 2))), (2, .int (nI (by2 f p1))), (0, .ref ac), (1, .int (nI p1))], [], M)) rfl rfl rfl ?_
  refine ps_st (S' := (14, [(3, .int (nI (p1 + 2))), (2, .int (nI (by2 f p1))), (0, .ref ac), (1, .int (nI p1))], [.int 0], M)) rfl rfl rfl ?_
  refine ps_st (S' := (16, [(0, .ref ac), (2, .int (nI (by2 f p1))), (3, .int (nI (p1 + 2))), (4, .int 0)], [], M)) rfl rfl rfl ?_
  exact (LL kf) (0) (p1 + 2) (s) M h_ac h_b h_da h_c h_vd hV hF (by omega) (hs) (hat) (rfl)
set_option maxHeartbeats 1000000 in
theorem dk_inst0 {g : xe_G} {M : mi_H} {o5 b : Nat} {x1 x2 : Int32} (h_o5 : M.1 o5 = some (ob 5 [.null, .int 0, .int 0, .int 0, .int 0, .int 0, .int 0, .int 0, .int 0, .int 0, .int 0, .int 0]))  : pt (mT g) 86 [.ref o5, .ref b, .int x1, .int x2] M (fun v M' => (v = none ∧ fm [o5] M M')) := by
  refine pt_in (b := mb_86 g) rfl (fun kf => ?_)
  show pl (mT g) kf (mb_86 g).2 (0, [(0, .ref o5), (1, .ref b), (2, .int x1), (3, .int x2)], [], M) _
  have hF : fm [o5] M M := fm.rf
  refine ps_st (S' := (1, [(0, .ref o5), (1, .ref b), (2, .int x1), (3, .int x2)], [.ref o5], M)) rfl rfl rfl ?_
  refine ps_st (S' := (4, [(0, .ref o5), (1, .ref b), (2, .int x1), (3, .int x2)], [], M)) rfl rfl rfl ?_
  refine ps_st (S' := (5, [(0, .ref o5), (1, .ref b), (2, .int x1), (3, .int x2)], [.ref o5], M)) rfl rfl rfl ?_
  refine ps_st (S' := (6, [(0, .ref o5), (1, .ref b), (2, .int x1), (3, .int x2)], [.ref b, .ref o5], M)) rfl rfl rfl ?_
  refine ps_put (l' := [.ref b, .int 0, .int 0, .int 0, .int 0, .int 0, .int 0, .int 0, .int 0, .int 0, .int 0, .int 0]) rfl h_o5 rfl rfl (fun M1 h2 f3 z4 => ?_)
  have hF5 := hF.up (by simp) f3 z4
  show pl _ _ _ (9, [(0, .ref o5), (1, .ref b), (2, .int x1), (3, .int x2)], [], M1) _
  refine ps_st (S' := (10, [(0, .ref o5), (1, .ref b), (2, .int x1), (3, .int x2)], [.ref o5], M1)) rfl rfl rfl ?_
  refine ps_st (S' := (11, [(0, .ref o5), (1, .ref b), (2, .int x1), (3, .int x2)], [.int x1, .ref o5], M1)) rfl rfl rfl ?_
  refine ps_put (l' := [.ref b, .int x1, .int 0, .int 0, .int 0, .int 0, .int 0, .int 0, .int 0, .int 0, .int 0, .int 0]) rfl h2 rfl rfl (fun M6 h7 f8 z9 => ?_)
  have hF10 := hF5.up (by simp) f8 z9
  show pl _ _ _ (14, [(0, .ref o5), (1, .ref b), (2, .int x1), (3, .int x2)], [], M6) _
  refine ps_st (S' := (15, [(0, .ref o5), (1, .ref b), (2, .int x1), (3, .int x2)], [.ref o5], M6)) rfl rfl rfl ?_
  refine ps_st (S' := (16, [(0, .ref o5), (1, .ref b), (2, .int x1), (3, .int x2)], [.int x2, .ref o5], M6)) rfl rfl rfl ?_
  refine ps_put (l' := [.ref b, .int x1, .int x2, .int 0, .int 0, .int 0, .int 0, .int 0, .int 0, .int 0, .int 0, .int 0]) rfl h7 rfl rfl (fun M11 h12 f13 z14 => ?_)
  have hF15 := hF10.up (by simp) f13 z14
  show pl _ _ _ (19, [(0, .ref o5), (1, .ref b), (2, .int x1), (3, .int x2)], [], M11) _
  exact ps_ret rfl rfl (⟨rfl, hF15⟩)
set_option maxHeartbeats 1000000 in
theorem dk_code0 {g : xe_G} {M : mi_H} {f : Nat → Int32} {n q c b da fr mr fa ic mj na pa cd0 p0 : Nat} {mi k1 k2 k3 k4 k5 k6 k7 : Int32} (h_cd0 : M.1 cd0 = some (ob 4 [.int 0, .int 0, .int 0, .int 0, .int 0, .null, .int 0, .null, .int 0, .null, .null])) (h_c : M.1 c = some (ob 3 [.ref b, .ref q, .int mi, .int (nI mj), .int (nI fa), .int (nI ic), .ref fr, .ref mr, .int (nI na), .int (nI pa), .int k1, .int k2, .int k3, .int k4, .int k5, .int k6, .int k7])) (h_b : M.1 b = some (ob 1 [.ref da])) (h_da : M.1 da = some (ar .byte n f)) (hn : n ≤ 65540) (hin : p0 + 8 + by4 f (p0 + 4) + 2 ≤ n) (l_cd0 : cd0 < M.2.1) (l_c : c < M.2.1) (l_b : b < M.2.1) (l_da : da < M.2.1) : pt (mT g) 74 [.ref cd0, .ref c, .int (nI p0)] M (fun v M' => (v = none ∧ M'.1 cd0 = some (ob 4 [.int (nI (by2 f p0)), .int (nI (by2 f (p0 + 2))), .int (nI (by4 f (p0 + 4))), .int (nI (p0 + 8 + by4 f (p0 + 4) + 2)), .int (nI (by2 f (p0 + 8 + by4 f (p0 + 4)))), .ref q, .int (nI mj), .ref (M.2.1), .int 0, .null, .null]) ∧ gm [cd0] M M' ∧ M'.2.1 = M.2.1 + 1)) := by
  refine pt_in (b := mb_74 g) rfl (fun kf => ?_)
  show pl (mT g) kf (mb_74 g).2 (0, [(0, .ref cd0), (1, .ref c), (2, .int (nI p0))], [], M) _
  have hF : gm [cd0] M M := gm.rf
  obtain ⟨z0, tp0⟩ : ∃ z0, M.2.1 = z0 := ⟨_, rfl⟩
  refine ps_st (S' := (1, [(0, .ref cd0), (1, .ref c), (2, .int (nI p0))], [.ref cd0], M)) rfl rfl rfl ?_
  refine ps_st (S' := (4, [(0, .ref cd0), (1, .ref c), (2, .int (nI p0))], [], M)) rfl rfl rfl ?_
  refine ps_st (S' := (5, [(0, .ref cd0), (1, .ref c), (2, .int (nI p0))], [.ref c], M)) rfl rfl rfl ?_
  refine ps_get (S' := (8, [(0, .ref cd0), (1, .ref c), (2, .int (nI p0))], [.ref b], M)) rfl h_c rfl rfl ?_
  refine ps_st (S' := (9, [(3, .ref b), (0, .ref cd0), (1, .ref c), (2, .int (nI p0))], [], M)) rfl rfl rfl ?_
  refine ps_st (S' := (10, [(3, .ref b), (0, .ref cd0), (1, .ref c), (2, .int (nI p0))], [.ref cd0], M)) rfl rfl rfl ?_
  refine ps_st (S' := (11, [(3, .ref b), (0, .ref cd0), (1, .ref c), (2, .int (nI p0))], [.ref b, .ref cd0], M)) rfl rfl rfl ?_
  refine ps_st (S' := (12, [(3, .ref b), (0, .ref cd0), (1, .ref c), (2, .int (nI p0))], [.int (nI p0), .ref b, .ref cd0], M)) rfl rfl rfl ?_
  refine pl_call (a := [.ref b, .int (nI p0)]) (rest := [.ref cd0]) rfl rfl rfl (dk_u2 (f := f) (n := n) (b := b) (da := da) (p := p0) h_b h_da (hn) (by omega)) (fun v1 M2 q3 => ?_)
  obtain ⟨rfl, rfl⟩ := q3
  show pl _ _ _ (15, [(3, .ref b), (0, .ref cd0), (1, .ref c), (2, .int (nI p0))], [.int (nI (by2 f p0)), .ref cd0], M) _
  have hu_12 := by2_lt f p0
  refine ps_put (l' := [.int (nI (by2 f p0)), .int 0, .int 0, .int 0, .int 0, .null, .int 0, .null, .int 0, .null, .null]) rfl h_cd0 rfl rfl (fun M4 h5 f6 z7 => ?_)
  have h8 := (f6 c (ob_ne h_c h_cd0 (by decide))).trans h_c
  have h9 := (f6 b (ob_ne h_b h_cd0 (by decide))).trans h_b
  have h10 := (f6 da (Ne.symm (ob_ar h_cd0 h_da))).trans h_da
  have hF11 := hF.up (Or.inl (by simp)) f6 (by rw [z7]; exact Nat.le_refl _)
  have tp12 : M4.2.1 = z0 := by rw [z7]; exact tp0
  show pl _ _ _ (18, [(3, .ref b), (0, .ref cd0), (1, .ref c), (2, .int (nI p0))], [], M4) _
  refine ps_st (S' := (19, [(3, .ref b), (0, .ref cd0), (1, .ref c), (2, .int (nI p0))], [.ref cd0], M4)) rfl rfl rfl ?_
  refine ps_st (S' := (20, [(3, .ref b), (0, .ref cd0), (1, .ref c), (2, .int (nI p0))], [.ref b, .ref cd0], M4)) rfl rfl rfl ?_
  refine ps_st (S' := (21, [(3, .ref b), (0, .ref cd0), (1, .ref c), (2, .int (nI p0))], [.int (nI p0), .ref b, .ref cd0], M4)) rfl rfl rfl ?_
  refine ps_st (S' := (22, [(3, .ref b), (0, .ref cd0), (1, .ref c), (2, .int (nI p0))], [.int 2, .int (nI p0), .ref b, .ref cd0], M4)) rfl rfl rfl ?_
  refine ps_st (S' := (23, [(3, .ref b), (0, .ref cd0), (1, .ref c), (2, .int (nI p0))], [.int ((nI p0) + 2), .ref b, .ref cd0], M4)) rfl rfl rfl ?_
  rw [nI_add1 (p := p0) (k := 2) (x := 2) rfl (by omega)]
  show pl _ _ _ (_, [(3, .ref b), (0, .ref cd0), (1, .ref c), (2, .int (nI p0))], [.int (nI (p0 + 2)), .ref b, .ref cd0], M4) _
  refine pl_call (a := [.ref b, .int (nI (p0 + 2))]) (rest := [.ref cd0]) rfl rfl rfl (dk_u2 (f := f) (n := n) (b := b) (da := da) (p := (p0 + 2)) h9 h10 (hn) (by omega)) (fun v13 M14 q15 => ?_)
  obtain ⟨rfl, rfl⟩ := q15
  show pl _ _ _ (26, [(3, .ref b), (0, .ref cd0), (1, .ref c), (2, .int (nI p0))], [.int (nI (by2 f (p0 + 2))), .ref cd0], M4) _
  have hu_23 := by2_lt f (p0 + 2)
  refine ps_put (l' := [.int (nI (by2 f p0)), .int (nI (by2 f (p0 + 2))), .int 0, .int 0, .int 0, .null, .int 0, .null, .int 0, .null, .null]) rfl h5 rfl rfl (fun M16 h17 f18 z19 => ?_)
  have h20 := (f18 c (ob_ne h8 h5 (by decide))).trans h8
  have h21 := (f18 b (ob_ne h9 h5 (by decide))).trans h9
  have h22 := (f18 da (Ne.symm (ob_ar h5 h10))).trans h10
  have hF23 := hF11.up (Or.inl (by simp)) f18 (by rw [z19]; exact Nat.le_refl _)
  have tp24 : M16.2.1 = z0 := by rw [z19]; exact tp12
  show pl _ _ _ (29, [(3, .ref b), (0, .ref cd0), (1, .ref c), (2, .int (nI p0))], [], M16) _
  refine ps_st (S' := (30, [(3, .ref b), (0, .ref cd0), (1, .ref c), (2, .int (nI p0))], [.ref cd0], M16)) rfl rfl rfl ?_
  refine ps_st (S' := (31, [(3, .ref b), (0, .ref cd0), (1, .ref c), (2, .int (nI p0))], [.ref b, .ref cd0], M16)) rfl rfl rfl ?_
  refine ps_st (S' := (32, [(3, .ref b), (0, .ref cd0), (1, .ref c), (2, .int (nI p0))], [.int (nI p0), .ref b, .ref cd0], M16)) rfl rfl rfl ?_
  refine ps_st (S' := (33, [(3, .ref b), (0, .ref cd0), (1, .ref c), (2, .int (nI p0))], [.int 4, .int (nI p0), .ref b, .ref cd0], M16)) rfl rfl rfl ?_
  refine ps_st (S' := (34, [(3, .ref b), (0, .ref cd0), (1, .ref c), (2, .int (nI p0))], [.int ((nI p0) + 4), .ref b, .ref cd0], M16)) rfl rfl rfl ?_
  rw [nI_add1 (p := p0) (k := 4) (x := 4) rfl (by omega)]
  show pl _ _ _ (_, [(3, .ref b), (0, .ref cd0), (1, .ref c), (2, .int (nI p0))], [.int (nI (p0 + 4)), .ref b, .ref cd0], M16) _
  refine pl_call (a := [.ref b, .int (nI (p0 + 4))]) (rest := [.ref cd0]) rfl rfl rfl (dk_u4 (f := f) (n := n) (b := b) (da := da) (p := (p0 + 4)) h21 h22 (hn) (by omega)) (fun v25 M26 q27 => ?_)
  obtain ⟨rfl, rfl⟩ := q27
  show pl _ _ _ (37, [(3, .ref b), (0, .ref cd0), (1, .ref c), (2, .int (nI p0))], [.int (nI (by4 f (p0 + 4))), .ref cd0], M16) _
  have hu_34 := by4_lt f (p0 + 4)
  refine ps_put (l' := [.int (nI (by2 f p0)), .int (nI (by2 f (p0 + 2))), .int (nI (by4 f (p0 + 4))), .int 0, .int 0, .null, .int 0, .null, .int 0, .null, .null]) rfl h17 rfl rfl (fun M28 h29 f30 z31 => ?_)
  have h32 := (f30 c (ob_ne h20 h17 (by decide))).trans h20
  have h33 := (f30 b (ob_ne h21 h17 (by decide))).trans h21
  have h34 := (f30 da (Ne.symm (ob_ar h17 h22))).trans h22
  have hF35 := hF23.up (Or.inl (by simp)) f30 (by rw [z31]; exact Nat.le_refl _)
  have tp36 : M28.2.1 = z0 := by rw [z31]; exact tp24
  show pl _ _ _ (40, [(3, .ref b), (0, .ref cd0), (1, .ref c), (2, .int (nI p0))], [], M28) _
  refine ps_st (S' := (41, [(3, .ref b), (0, .ref cd0), (1, .ref c), (2, .int (nI p0))], [.ref cd0], M28)) rfl rfl rfl ?_
  refine ps_st (S' := (42, [(3, .ref b), (0, .ref cd0), (1, .ref c), (2, .int (nI p0))], [.int (nI p0), .ref cd0], M28)) rfl rfl rfl ?_
  refine ps_st (S' := (44, [(3, .ref b), (0, .ref cd0), (1, .ref c), (2, .int (nI p0))], [.int 8, .int (nI p0), .ref cd0], M28)) rfl rfl rfl ?_
  refine ps_st (S' := (45, [(3, .ref b), (0, .ref cd0), (1, .ref c), (2, .int (nI p0))], [.int ((nI p0) + 8), .ref cd0], M28)) rfl rfl rfl ?_
  rw [nI_add1 (p := p0) (k := 8) (x := 8) rfl (by omega)]
  show pl _ _ _ (_, [(3, .ref b), (0, .ref cd0), (1, .ref c), (2, .int (nI p0))], [.int (nI (p0 + 8)), .ref cd0], M28) _
  refine ps_st (S' := (46, [(3, .ref b), (0, .ref cd0), (1, .ref c), (2, .int (nI p0))], [.ref cd0, .int (nI (p0 + 8)), .ref cd0], M28)) rfl rfl rfl ?_
  refine ps_get (S' := (49, [(3, .ref b), (0, .ref cd0), (1, .ref c), (2, .int (nI p0))], [.int (nI (by4 f (p0 + 4))), .int (nI (p0 + 8)), .ref cd0], M28)) rfl h29 rfl rfl ?_
  refine ps_st (S' := (50, [(3, .ref b), (0, .ref cd0), (1, .ref c), (2, .int (nI p0))], [.int ((nI (p0 + 8)) + (nI (by4 f (p0 + 4)))), .ref cd0], M28)) rfl rfl rfl ?_
  rw [nI_add1 (p := p0 + 8) (k := by4 f (p0 + 4)) (x := (nI (by4 f (p0 + 4)))) rfl (by omega)]
  show pl _ _ _ (_, [(3, .ref b), (0, .ref cd0), (1, .ref c), (2, .int (nI p0))], [.int (nI (p0 + 8 + by4 f (p0 + 4))), .ref cd0], M28) _
  refine ps_st (S' := (51, [(3, .ref b), (0, .ref cd0), (1, .ref c), (2, .int (nI p0))], [.int 2, .int (nI (p0 + 8 + by4 f (p0 + 4))), .ref cd0], M28)) rfl rfl rfl ?_
  refine ps_st (S' := (52, [(3, .ref b), (0, .ref cd0), (1, .ref c), (2, .int (nI p0))], [.int ((nI (p0 + 8 + by4 f (p0 + 4))) + 2), .ref cd0], M28)) rfl rfl rfl ?_
  rw [nI_add1 (p := p0 + 8 + by4 f (p0 + 4)) (k := 2) (x := 2) rfl (by omega)]
  show pl _ _ _ (_, [(3, .ref b), (0, .ref cd0), (1, .ref c), (2, .int (nI p0))], [.int (nI (p0 + 8 + by4 f (p0 + 4) + 2)), .ref cd0], M28) _
  refine ps_put (l' := [.int (nI (by2 f p0)), .int (nI (by2 f (p0 + 2))), .int (nI (by4 f (p0 + 4))), .int (nI (p0 + 8 + by4 f (p0 + 4) + 2)), .int 0, .null, .int 0, .null, .int 0, .null, .null]) rfl h29 rfl rfl (fun M37 h38 f39 z40 => ?_)
  have h41 := (f39 c (ob_ne h32 h29 (by decide))).trans h32
  have h42 := (f39 b (ob_ne h33 h29 (by decide))).trans h33
  have h43 := (f39 da (Ne.symm (ob_ar h29 h34))).trans h34
  have hF44 := hF35.up (Or.inl (by simp)) f39 (by rw [z40]; exact Nat.le_refl _)
  have tp45 : M37.2.1 = z0 := by rw [z40]; exact tp36
  show pl _ _ _ (55, [(3, .ref b), (0, .ref cd0), (1, .ref c), (2, .int (nI p0))], [], M37) _
  refine ps_st (S' := (56, [(3, .ref b), (0, .ref cd0), (1, .ref c), (2, .int (nI p0))], [.ref cd0], M37)) rfl rfl rfl ?_
  refine ps_st (S' := (57, [(3, .ref b), (0, .ref cd0), (1, .ref c), (2, .int (nI p0))], [.ref b, .ref cd0], M37)) rfl rfl rfl ?_
  refine ps_st (S' := (58, [(3, .ref b), (0, .ref cd0), (1, .ref c), (2, .int (nI p0))], [.ref cd0, .ref b, .ref cd0], M37)) rfl rfl rfl ?_
  refine ps_get (S' := (61, [(3, .ref b), (0, .ref cd0), (1, .ref c), (2, .int (nI p0))], [.int (nI (p0 + 8 + by4 f (p0 + 4) + 2)), .ref b, .ref cd0], M37)) rfl h38 rfl rfl ?_
  refine ps_st (S' := (62, [(3, .ref b), (0, .ref cd0), (1, .ref c), (2, .int (nI p0))], [.int 2, .int (nI (p0 + 8 + by4 f (p0 + 4) + 2)), .ref b, .ref cd0], M37)) rfl rfl rfl ?_
  refine ps_st (S' := (63, [(3, .ref b), (0, .ref cd0), (1, .ref c), (2, .int (nI p0))], [.int ((nI (p0 + 8 + by4 f (p0 + 4) + 2)) - 2), .ref b, .ref cd0], M37)) rfl rfl rfl ?_
  rw [nI_sub1 (p := p0 + 8 + by4 f (p0 + 4) + 2) (k := 2) (x := 2) rfl (by omega) (by omega)]
  show pl _ _ _ (_, [(3, .ref b), (0, .ref cd0), (1, .ref c), (2, .int (nI p0))], [.int (nI ((p0 + 8 + by4 f (p0 + 4) + 2) - 2)), .ref b, .ref cd0], M37) _
  rw [Nat.add_sub_cancel]
  refine pl_call (a := [.ref b, .int (nI (p0 + 8 + by4 f (p0 + 4)))]) (rest := [.ref cd0]) rfl rfl rfl (dk_u2 (f := f) (n := n) (b := b) (da := da) (p := (p0 + 8 + by4 f (p0 + 4))) h42 h43 (hn) (by omega)) (fun v46 M47 q48 => ?_)
  obtain ⟨rfl, rfl⟩ := q48
  show pl _ _ _ (66, [(3, .ref b), (0, .ref cd0), (1, .ref c), (2, .int (nI p0))], [.int (nI (by2 f (p0 + 8 + by4 f (p0 + 4)))), .ref cd0], M37) _
  have hu_63 := by2_lt f (p0 + 8 + by4 f (p0 + 4))
  refine ps_put (l' := [.int (nI (by2 f p0)), .int (nI (by2 f (p0 + 2))), .int (nI (by4 f (p0 + 4))), .int (nI (p0 + 8 + by4 f (p0 + 4) + 2)), .int (nI (by2 f (p0 + 8 + by4 f (p0 + 4)))), .null, .int 0, .null, .int 0, .null, .null]) rfl h38 rfl rfl (fun M49 h50 f51 z52 => ?_)
  have h53 := (f51 c (ob_ne h41 h38 (by decide))).trans h41
  have h54 := (f51 b (ob_ne h42 h38 (by decide))).trans h42
  have h55 := (f51 da (Ne.symm (ob_ar h38 h43))).trans h43
  have hF56 := hF44.up (Or.inl (by simp)) f51 (by rw [z52]; exact Nat.le_refl _)
  have tp57 : M49.2.1 = z0 := by rw [z52]; exact tp45
  show pl _ _ _ (69, [(3, .ref b), (0, .ref cd0), (1, .ref c), (2, .int (nI p0))], [], M49) _
  refine ps_st (S' := (70, [(3, .ref b), (0, .ref cd0), (1, .ref c), (2, .int (nI p0))], [.ref cd0], M49)) rfl rfl rfl ?_
  refine ps_st (S' := (71, [(3, .ref b), (0, .ref cd0), (1, .ref c), (2, .int (nI p0))], [.ref c, .ref cd0], M49)) rfl rfl rfl ?_
  refine ps_get (S' := (74, [(3, .ref b), (0, .ref cd0), (1, .ref c), (2, .int (nI p0))], [.ref q, .ref cd0], M49)) rfl h53 rfl rfl ?_
  refine ps_put (l' := [.int (nI (by2 f p0)), .int (nI (by2 f (p0 + 2))), .int (nI (by4 f (p0 + 4))), .int (nI (p0 + 8 + by4 f (p0 + 4) + 2)), .int (nI (by2 f (p0 + 8 + by4 f (p0 + 4)))), .ref q, .int 0, .null, .int 0, .null, .null]) rfl h50 rfl rfl (fun M58 h59 f60 z61 => ?_)
  have h62 := (f60 c (ob_ne h53 h50 (by decide))).trans h53
  have h63 := (f60 b (ob_ne h54 h50 (by decide))).trans h54
  have h64 := (f60 da (Ne.symm (ob_ar h50 h55))).trans h55
  have hF65 := hF56.up (Or.inl (by simp)) f60 (by rw [z61]; exact Nat.le_refl _)
  have tp66 : M58.2.1 = z0 := by rw [z61]; exact tp57
  show pl _ _ _ (77, [(3, .ref b), (0, .ref cd0), (1, .ref c), (2, .int (nI p0))], [], M58) _
  refine ps_st (S' := (78, [(3, .ref b), (0, .ref cd0), (1, .ref c), (2, .int (nI p0))], [.ref cd0], M58)) rfl rfl rfl ?_
  refine ps_st (S' := (79, [(3, .ref b), (0, .ref cd0), (1, .ref c), (2, .int (nI p0))], [.ref c, .ref cd0], M58)) rfl rfl rfl ?_
  refine ps_get (S' := (82, [(3, .ref b), (0, .ref cd0), (1, .ref c), (2, .int (nI p0))], [.int (nI mj), .ref cd0], M58)) rfl h62 rfl rfl ?_
  refine ps_put (l' := [.int (nI (by2 f p0)), .int (nI (by2 f (p0 + 2))), .int (nI (by4 f (p0 + 4))), .int (nI (p0 + 8 + by4 f (p0 + 4) + 2)), .int (nI (by2 f (p0 + 8 + by4 f (p0 + 4)))), .ref q, .int (nI mj), .null, .int 0, .null, .null]) rfl h59 rfl rfl (fun M67 h68 f69 z70 => ?_)
  have h71 := (f69 c (ob_ne h62 h59 (by decide))).trans h62
  have h72 := (f69 b (ob_ne h63 h59 (by decide))).trans h63
  have h73 := (f69 da (Ne.symm (ob_ar h59 h64))).trans h64
  have hF74 := hF65.up (Or.inl (by simp)) f69 (by rw [z70]; exact Nat.le_refl _)
  have tp75 : M67.2.1 = z0 := by rw [z70]; exact tp66
  show pl _ _ _ (85, [(3, .ref b), (0, .ref cd0), (1, .ref c), (2, .int (nI p0))], [], M67) _
  refine ps_st (S' := (86, [(3, .ref b), (0, .ref cd0), (1, .ref c), (2, .int (nI p0))], [.ref cd0], M67)) rfl rfl rfl ?_
  refine ps_newz rfl tp75 (fun M76 h77 f78 tp79 => ?_)
  have h80 := (f78 cd0 (show cd0 ≠ z0 by omega)).trans h68
  have h81 := (f78 c (show c ≠ z0 by omega)).trans h71
  have h82 := (f78 b (show b ≠ z0 by omega)).trans h72
  have h83 := (f78 da (show da ≠ z0 by omega)).trans h73
  have hF84 := hF74.up (Or.inr (by omega)) f78 (by omega)
  show pl _ _ _ (89, [(3, .ref b), (0, .ref cd0), (1, .ref c), (2, .int (nI p0))], [.ref z0, .ref cd0], M76) _
  refine ps_st (S' := (90, [(3, .ref b), (0, .ref cd0), (1, .ref c), (2, .int (nI p0))], [.ref z0, .ref z0, .ref cd0], M76)) rfl rfl rfl ?_
  refine ps_st (S' := (91, [(3, .ref b), (0, .ref cd0), (1, .ref c), (2, .int (nI p0))], [.ref b, .ref z0, .ref z0, .ref cd0], M76)) rfl rfl rfl ?_
  refine ps_st (S' := (92, [(3, .ref b), (0, .ref cd0), (1, .ref c), (2, .int (nI p0))], [.int (nI p0), .ref b, .ref z0, .ref z0, .ref cd0], M76)) rfl rfl rfl ?_
  refine ps_st (S' := (94, [(3, .ref b), (0, .ref cd0), (1, .ref c), (2, .int (nI p0))], [.int 8, .int (nI p0), .ref b, .ref z0, .ref z0, .ref cd0], M76)) rfl rfl rfl ?_
  refine ps_st (S' := (95, [(3, .ref b), (0, .ref cd0), (1, .ref c), (2, .int (nI p0))], [.int ((nI p0) + 8), .ref b, .ref z0, .ref z0, .ref cd0], M76)) rfl rfl rfl ?_
  rw [nI_add1 (p := p0) (k := 8) (x := 8) rfl (by omega)]
  show pl _ _ _ (_, [(3, .ref b), (0, .ref cd0), (1, .ref c), (2, .int (nI p0))], [.int (nI (p0 + 8)), .ref b, .ref z0, .ref z0, .ref cd0], M76) _
  refine ps_st (S' := (96, [(3, .ref b), (0, .ref cd0), (1, .ref c), (2, .int (nI p0))], [.ref cd0, .int (nI (p0 + 8)), .ref b, .ref z0, .ref z0, .ref cd0], M76)) rfl rfl rfl ?_
  refine ps_get (S' := (99, [(3, .ref b), (0, .ref cd0), (1, .ref c), (2, .int (nI p0))], [.int (nI (by4 f (p0 + 4))), .int (nI (p0 + 8)), .ref b, .ref z0, .ref z0, .ref cd0], M76)) rfl h80 rfl rfl ?_
  refine pl_call (a := [.ref z0, .ref b, .int (nI (p0 + 8)), .int (nI (by4 f (p0 + 4)))]) (rest := [.ref z0, .ref cd0]) rfl rfl rfl (dk_inst0 (o5 := z0) (b := b) (x1 := (nI (p0 + 8))) (x2 := (nI (by4 f (p0 + 4)))) h77) (fun v85 M86 q87 => ?_)
  obtain ⟨rfl, f88⟩ := q87
  have h90 := (f88.1 cd0 (nin1 (show cd0 ≠ z0 by omega))).trans h80
  have h91 := (f88.1 c (nin1 (show c ≠ z0 by omega))).trans h81
  have h92 := (f88.1 b (nin1 (show b ≠ z0 by omega))).trans h82
  have h93 := (f88.1 da (nin1 (show da ≠ z0 by omega))).trans h83
  have hF94 := hF84.trf f88 (by intro z hz; simp only [List.mem_cons, List.not_mem_nil, or_false] at hz ⊢; try omega)
  have tp95 : M86.2.1 = z0 + 1 := by rw [f88.2]; exact tp79
  show pl _ _ _ (102, [(3, .ref b), (0, .ref cd0), (1, .ref c), (2, .int (nI p0))], [.ref z0, .ref cd0], M86) _
  refine ps_put (l' := [.int (nI (by2 f p0)), .int (nI (by2 f (p0 + 2))), .int (nI (by4 f (p0 + 4))), .int (nI (p0 + 8 + by4 f (p0 + 4) + 2)), .int (nI (by2 f (p0 + 8 + by4 f (p0 + 4)))), .ref q, .int (nI mj), .ref z0, .int 0, .null, .null]) rfl h90 rfl rfl (fun M96 h97 f98 z99 => ?_)
  have h100 := (f98 c (ob_ne h91 h90 (by decide))).trans h91
  have h101 := (f98 b (ob_ne h92 h90 (by decide))).trans h92
  have h102 := (f98 da (Ne.symm (ob_ar h90 h93))).trans h93
  have hF103 := hF94.up (Or.inl (by simp)) f98 (by rw [z99]; exact Nat.le_refl _)
  have tp104 : M96.2.1 = z0 + 1 := by rw [z99]; exact tp95
  show pl _ _ _ (105, [(3, .ref b), (0, .ref cd0), (1, .ref c), (2, .int (nI p0))], [], M96) _
  refine ps_st (S' := (106, [(3, .ref b), (0, .ref cd0), (1, .ref c), (2, .int (nI p0))], [.ref cd0], M96)) rfl rfl rfl ?_
  refine ps_st (S' := (107, [(3, .ref b), (0, .ref cd0), (1, .ref c), (2, .int (nI p0))], [.int 0, .ref cd0], M96)) rfl rfl rfl ?_
  refine ps_put (l' := [.int (nI (by2 f p0)), .int (nI (by2 f (p0 + 2))), .int (nI (by4 f (p0 + 4))), .int (nI (p0 + 8 + by4 f (p0 + 4) + 2)), .int (nI (by2 f (p0 + 8 + by4 f (p0 + 4)))), .ref q, .int (nI mj), .ref z0, .int 0, .null, .null]) rfl h97 rfl rfl (fun M105 h106 f107 z108 => ?_)
  have h109 := (f107 c (ob_ne h100 h97 (by decide))).trans h100
  have h110 := (f107 b (ob_ne h101 h97 (by decide))).trans h101
  have h111 := (f107 da (Ne.symm (ob_ar h97 h102))).trans h102
  have hF112 := hF103.up (Or.inl (by simp)) f107 (by rw [z108]; exact Nat.le_refl _)
  have tp113 : M105.2.1 = z0 + 1 := by rw [z108]; exact tp104
  show pl _ _ _ (110, [(3, .ref b), (0, .ref cd0), (1, .ref c), (2, .int (nI p0))], [], M105) _
  exact ps_ret rfl rfl (⟨rfl, by rw [tp0]; exact h106, hF112, by rw [tp0]; exact tp113⟩)
set_option maxHeartbeats 1000000 in
theorem dk_codeHolds {g : xe_G} {M : mi_H} {f : Nat → Int32} {n N q : Nat} {E : List (Nat × Nat)} {ac c b da vd fr mr fa ic mj na pa : Nat} {mi ru wa k1 k2 k3 k4 k5 k6 k7 : Int32} {a b0 s w p e : Nat} {kn co ex : Int32} {cd : Value} (h_ac : M.1 ac = some (ob 0 [.ref c, .ref b, .ref q, .ref vd, .int (nI s)])) (h_b : M.1 b = some (ob 1 [.ref da])) (h_da : M.1 da = some (ar .byte n f)) (h_c : M.1 c = some (ob 3 [.ref b, .ref q, .int mi, .int (nI mj), .int (nI fa), .int (nI ic), .ref fr, .ref mr, .int (nI na), .int (nI pa), .int k1, .int k2, .int k3, .int k4, .int k5, .int k6, .int k7])) (h_vd : M.1 vd = some (ob 10 [.int ru, .int wa])) (h_a : M.1 a = some (ob 6 [.int (nI b0), .int (nI (by2 f b0)), .int (nI (by2 f (b0 + 2))), .int (nI (by2 f (b0 + 4))), .int (nI (by2 f (b0 + 6))), .int (nI (b0 + 8)), .int kn, .int co, .int (nI w), .int ex, cd])) (hn : n ≤ 65540) (hmj : mj < 65536) (hs : s < 2048) (hw : w < 100000) (he : e ≤ n) (hcd0 : s_cdE f e (p + 6) = some e) (hV : PV g f n N E q M) (l_ac : ac < M.2.1) (l_c : c < M.2.1) (l_b : b < M.2.1) (l_da : da < M.2.1) (l_vd : vd < M.2.1) (l_a : a < M.2.1) (l_q : q < M.2.1) : pt (mT g) 30 [.ref ac, .ref a, .int (nI p)] M (fun v M' => (∃ (e9 : Nat × Nat), (cdS f n E mj w p s = .inl e9) ∧ v = some (.int 0) ∧ M'.1 vd = some (ob 10 [.int (nI e9.1), .int (nI e9.2)]) ∧ gm [ac, vd, a] M M' ∧ M'.2.1 = M.2.1 + 2) ∨ (∃ (s' : Nat), (cdS f n E mj w p s = .inr s') ∧ (s' < 2048) ∧ v = some (.int 1) ∧ M'.1 ac = some (ob 0 [.ref c, .ref b, .ref q, .ref vd, .int (nI s')]) ∧ M'.1 vd = some (ob 10 [.int ru, .int wa]) ∧ M'.1 a = some (ob 6 [.int (nI b0), .int (nI (by2 f b0)), .int (nI (by2 f (b0 + 2))), .int (nI (by2 f (b0 + 4))), .int (nI (by2 f (b0 + 6))), .int (nI (b0 + 8)), .int kn, .int co, .int (nI w), .int ex, .ref (M.2.1)]) ∧ gm [ac, vd, a] M M' ∧ M'.2.1 = M.2.1 + 2)) := by
  refine pt_in (b := mb_30 g) rfl (fun kf => ?_)
  show pl (mT g) kf (mb_30 g).2 (0, [(0, .ref ac), (1, .ref a), (2, .int (nI p))], [], M) _
  have hF : gm [ac, vd, a] M M := gm.rf
  obtain ⟨z0, tp0⟩ : ∃ z0, M.2.1 = z0 := ⟨_, rfl⟩
  have hcd : p + 14 + by4 f (p + 10) + 2 + 8 * by2 f (p + 14 + by4 f (p + 10)) + 2 ≤ e ∧ True ∧ s_atE f e (by2 f (p + 14 + by4 f (p + 10) + 2 + 8 * by2 f (p + 14 + by4 f (p + 10)))) (p + 14 + by4 f (p + 10) + 2 + 8 * by2 f (p + 14 + by4 f (p + 10)) + 2) = some e := s_cdE_in hcd0
  have hw9 := by2_lt f (p + 14 + by4 f (p + 10))
  have LL : ∀ (kf : Nat), (∀ (i : Nat) (M1 : mi_H), (M1.1 ac = some (ob 0 [.ref c, .ref b, .ref q, .ref vd, .int (nI s)])) → (M1.1 b = some (ob 1 [.ref da])) → (M1.1 da = some (ar .byte n f)) → (M1.1 c = some (ob 3 [.ref b, .ref q, .int mi, .int (nI mj), .int (nI fa), .int (nI ic), .ref fr, .ref mr, .int (nI na), .int (nI pa), .int k1, .int k2, .int k3, .int k4, .int k5, .int k6, .int k7])) → (M1.1 vd = some (ob 10 [.int ru, .int wa])) → (M1.1 a = some (ob 6 [.int (nI b0), .int (nI (by2 f b0)), .int (nI (by2 f (b0 + 2))), .int (nI (by2 f (b0 + 4))), .int (nI (by2 f (b0 + 6))), .int (nI (b0 + 8)), .int kn, .int co, .int (nI w), .int ex, cd])) → (M1.1 z0 = some (ob 4 [.int (nI (by2 f (p + 6))), .int (nI (by2 f (p + 8))), .int (nI (by4 f (p + 10))), .int (nI (p + 14 + by4 f (p + 10) + 2)), .int (nI (by2 f (p + 14 + by4 f (p + 10)))), .ref q, .int (nI mj), .ref (z0 + 1), .int 0, .null, .null])) → (PV g f n N E q M1) → (gm [ac, vd, a] M M1) → (M1.2.1 = z0 + 2) → (i ≤ by2 f (p + 14 + by4 f (p + 10))) → (¬ (by4 f (p + 10) < 1 ∨ 65535 < by4 f (p + 10))) → (¬ by2 f (p + 8) < w) → (rwA f E (by4 f (p + 10)) (p + 14 + by4 f (p + 10) + 2) (by2 f (p + 14 + by4 f (p + 10)) - i) i = rwA f E (by4 f (p + 10)) (p + 14 + by4 f (p + 10) + 2) (by2 f (p + 14 + by4 f (p + 10))) 0) →  pl (mT g) kf (mb_30 g).2 (69, [(0, .ref ac), (1, .ref a), (2, .int (nI p)), (3, .ref z0), (4, .int (nI i))], [], M1) (fun v M' => (∃ (e9 : Nat × Nat), (cdS f n E mj w p s = .inl e9) ∧ v = some (.int 0) ∧ M'.1 vd = some (ob 10 [.int (nI e9.1), .int (nI e9.2)]) ∧ gm [ac, vd, a] M M' ∧ M'.2.1 = M.2.1 + 2) ∨ (∃ (s' : Nat), (cdS f n E mj w p s = .inr s') ∧ (s' < 2048) ∧ v = some (.int 1) ∧ M'.1 ac = some (ob 0 [.ref c, .ref b, .ref q, .ref vd, .int (nI s')]) ∧ M'.1 vd = some (ob 10 [.int ru, .int wa]) ∧ M'.1 a = some (ob 6 [.int (nI b0), .int (nI (by2 f b0)), .int (nI (by2 f (b0 + 2))), .int (nI (by2 f (b0 + 4))), .int (nI (by2 f (b0 + 6))), .int (nI (b0 + 8)), .int kn, .int co, .int (nI w), .int ex, .ref (M.2.1)]) ∧ gm [ac, vd, a] M M' ∧ M'.2.1 = M.2.1 + 2))) := by
    intro kf
    induction kf with
    | zero => exact (by intros; exact pl_0)
    | succ kf ih =>
      intro i M1 hl_ac hl_b hl_da hl_c hl_vd hl_a hl_z0 hV1 hF1 tp1 hi h41 h42 hr9
      have hu9 := by2_lt f (p + 14 + by4 f (p + 10))
      refine ps_st1 (S' := (71, [(0, .ref ac), (1, .ref a), (2, .int (nI p)), (3, .ref z0), (4, .int (nI i))], [.int (nI i)], M1)) rfl rfl rfl ?_
      refine ps_st (S' := (72, [(0, .ref ac), (1, .ref a), (2, .int (nI p)), (3, .ref z0), (4, .int (nI i))], [.ref z0, .int (nI i)], M1)) rfl rfl rfl ?_
      refine ps_get (S' := (75, [(0, .ref ac), (1, .ref a), (2, .int (nI p)), (3, .ref z0), (4, .int (nI i))], [.int (nI (by2 f (p + 14 + by4 f (p + 10)))), .int (nI i)], M1)) rfl hl_z0 rfl rfl ?_
      refine ps_if2 (S1 := (113, [(0, .ref ac), (1, .ref a), (2, .int (nI p)), (3, .ref z0), (4, .int (nI i))], [], M1)) (S2 := (78, [(0, .ref ac), (1, .ref a), (2, .int (nI p)), (3, .ref z0), (4, .int (nI i))], [], M1)) rfl rfl rfl (fun c_75 => ?_) (fun c_75 => ?_)
      · have c_75 : (nI (by2 f (p + 14 + by4 f (p + 10)))) ≤ (nI i) := of_decide_eq_true c_75
        have n_75 : by2 f (p + 14 + by4 f (p + 10)) ≤ i := (le_nI (p := by2 f (p + 14 + by4 f (p + 10))) (n := i) (Nat.lt_trans (by2_lt _ _) (by decide)) (by omega)).mp c_75
        refine ps_st (S' := (114, [(0, .ref ac), (1, .ref a), (2, .int (nI p)), (3, .ref z0), (4, .int (nI i))], [.ref a], M1)) rfl rfl rfl ?_
        refine ps_st (S' := (115, [(0, .ref ac), (1, .ref a), (2, .int (nI p)), (3, .ref z0), (4, .int (nI i))], [.ref z0, .ref a], M1)) rfl rfl rfl ?_
        refine ps_put (l' := [.int (nI b0), .int (nI (by2 f b0)), .int (nI (by2 f (b0 + 2))), .int (nI (by2 f (b0 + 4))), .int (nI (by2 f (b0 + 6))), .int (nI (b0 + 8)), .int kn, .int co, .int (nI w), .int ex, .ref z0]) rfl hl_a rfl rfl (fun M1 h2 f3 z4 => ?_)
        have h5 := (f3 ac (ob_ne hl_ac hl_a (by decide))).trans hl_ac
        have h6 := (f3 b (ob_ne hl_b hl_a (by decide))).trans hl_b
        have h7 := (f3 da (Ne.symm (ob_ar hl_a hl_da))).trans hl_da
        have h8 := (f3 c (ob_ne hl_c hl_a (by decide))).trans hl_c
        have h9 := (f3 vd (ob_ne hl_vd hl_a (by decide))).trans hl_vd
        have h10 := (f3 z0 (show z0 ≠ a by omega)).trans hl_z0
        have hV11 := hV1.put hl_a (by decide) f3 z4
        have hF12 := hF1.up (Or.inl (by simp)) f3 (by rw [z4]; exact Nat.le_refl _)
        have tp13 : M1.2.1 = z0 + 2 := by rw [z4]; exact tp1
        show pl _ _ _ (118, [(0, .ref ac), (1, .ref a), (2, .int (nI p)), (3, .ref z0), (4, .int (nI i))], [], M1) _
        refine ps_st (S' := (119, [(0, .ref ac), (1, .ref a), (2, .int (nI p)), (3, .ref z0), (4, .int (nI i))], [.ref ac], M1)) rfl rfl rfl ?_
        refine ps_st (S' := (120, [(0, .ref ac), (1, .ref a), (2, .int (nI p)), (3, .ref z0), (4, .int (nI i))], [.ref z0, .ref ac], M1)) rfl rfl rfl ?_
        refine ps_get (S' := (123, [(0, .ref ac), (1, .ref a), (2, .int (nI p)), (3, .ref z0), (4, .int (nI i))], [.int (nI (p + 14 + by4 f (p + 10) + 2)), .ref ac], M1)) rfl h10 rfl rfl ?_
        refine ps_st (S' := (125, [(0, .ref ac), (1, .ref a), (2, .int (nI p)), (3, .ref z0), (4, .int (nI i))], [.int 8, .int (nI (p + 14 + by4 f (p + 10) + 2)), .ref ac], M1)) rfl rfl rfl ?_
        refine ps_st (S' := (126, [(0, .ref ac), (1, .ref a), (2, .int (nI p)), (3, .ref z0), (4, .int (nI i))], [.ref z0, .int 8, .int (nI (p + 14 + by4 f (p + 10) + 2)), .ref ac], M1)) rfl rfl rfl ?_
        refine ps_get (S' := (129, [(0, .ref ac), (1, .ref a), (2, .int (nI p)), (3, .ref z0), (4, .int (nI i))], [.int (nI (by2 f (p + 14 + by4 f (p + 10)))), .int 8, .int (nI (p + 14 + by4 f (p + 10) + 2)), .ref ac], M1)) rfl h10 rfl rfl ?_
        refine ps_st (S' := (130, [(0, .ref ac), (1, .ref a), (2, .int (nI p)), (3, .ref z0), (4, .int (nI i))], [.int (8 * (nI (by2 f (p + 14 + by4 f (p + 10))))), .int (nI (p + 14 + by4 f (p + 10) + 2)), .ref ac], M1)) rfl rfl rfl ?_
        rw [nI_mul1 (p := 8) (k := by2 f (p + 14 + by4 f (p + 10))) (x := 8) (y := (nI (by2 f (p + 14 + by4 f (p + 10))))) rfl rfl (by omega)]
        show pl _ _ _ (_, [(0, .ref ac), (1, .ref a), (2, .int (nI p)), (3, .ref z0), (4, .int (nI i))], [.int (nI (8 * (by2 f (p + 14 + by4 f (p + 10))))), .int (nI (p + 14 + by4 f (p + 10) + 2)), .ref ac], M1) _
        refine ps_st (S' := (131, [(0, .ref ac), (1, .ref a), (2, .int (nI p)), (3, .ref z0), (4, .int (nI i))], [.int ((nI (p + 14 + by4 f (p + 10) + 2)) + (nI (8 * (by2 f (p + 14 + by4 f (p + 10)))))), .ref ac], M1)) rfl rfl rfl ?_
        rw [nI_add1 (p := p + 14 + by4 f (p + 10) + 2) (k := 8 * (by2 f (p + 14 + by4 f (p + 10)))) (x := (nI (8 * (by2 f (p + 14 + by4 f (p + 10)))))) rfl (by omega)]
        show pl _ _ _ (_, [(0, .ref ac), (1, .ref a), (2, .int (nI p)), (3, .ref z0), (4, .int (nI i))], [.int (nI (p + 14 + by4 f (p + 10) + 2 + 8 * (by2 f (p + 14 + by4 f (p + 10))))), .ref ac], M1) _
        refine pl_call (a := [.ref ac, .int (nI (p + 14 + by4 f (p + 10) + 2 + 8 * (by2 f (p + 14 + by4 f (p + 10)))))]) (rest := []) rfl rfl rfl (dk_codeAttributesHold (f := f) (n := n) (N := N) (q := q) (E := E) (ac := ac) (c := c) (b := b) (da := da) (vd := vd) (fr := fr) (mr := mr) (fa := fa) (ic := ic) (mj := mj) (na := na) (pa := pa) (mi := mi) (ru := ru) (wa := wa) (k1 := k1) (k2 := k2) (k3 := k3) (k4 := k4) (k5 := k5) (k6 := k6) (k7 := k7) (s := s) (p1 := (p + 14 + by4 f (p + 10) + 2 + 8 * (by2 f (p + 14 + by4 f (p + 10))))) (e := e) h5 h6 h7 h8 h9 (hn) (hmj) (by omega) (by omega) (hcd.2.2) (hV11)) (fun v14 M15 q16 => ?_)
        rcases q16 with q16 | q16
        · skip
          obtain ⟨e917, q131_s, rfl, h18, f19⟩ := q16
          have h21 := (f19.1 b (nin2 (ob_ne h6 h5 (by decide)) (ob_ne h6 h9 (by decide)))).trans h6
          have h22 := (f19.1 da (nin2 (Ne.symm (ob_ar h5 h7)) (Ne.symm (ob_ar h9 h7)))).trans h7
          have h23 := (f19.1 c (nin2 (ob_ne h8 h5 (by decide)) (ob_ne h8 h9 (by decide)))).trans h8
          have h24 := (f19.1 a (nin2 (ob_ne h2 h5 (by decide)) (ob_ne h2 h9 (by decide)))).trans h2
          have h25 := (f19.1 z0 (nin2 (show z0 ≠ ac by omega) (show z0 ≠ vd by omega))).trans h10
          have hF26 := hF12.trf f19 (by intro z hz; simp only [List.mem_cons, List.not_mem_nil, or_false] at hz ⊢; try omega)
          have tp27 : M15.2.1 = z0 + 2 := by rw [f19.2]; exact tp13
          have hV28 := hV11.keep f19.gm (n7c h5 (by decide) (n7c h9 (by decide) (n7nil)))
          show pl _ _ _ (134, [(0, .ref ac), (1, .ref a), (2, .int (nI p)), (3, .ref z0), (4, .int (nI i))], [.int 0], M15) _
          exact ps_ret rfl rfl (Or.inl ⟨e917, by
              unfold cdS
              rw [if_neg h41, if_neg h42, if_neg (by rw [← hr9, show by2 f (p + 14 + by4 f (p + 10)) - i = 0 by omega]; exact Nat.one_ne_zero)]
              exact q131_s, rfl, h18, hF26, by rw [tp0]; exact tp27⟩)
        · skip
          obtain ⟨s'29, q131_s, q131_l, rfl, h30, h31, f32⟩ := q16
          have h34 := (f32.1 b (nin2 (ob_ne h6 h5 (by decide)) (ob_ne h6 h9 (by decide)))).trans h6
          have h35 := (f32.1 da (nin2 (Ne.symm (ob_ar h5 h7)) (Ne.symm (ob_ar h9 h7)))).trans h7
          have h36 := (f32.1 c (nin2 (ob_ne h8 h5 (by decide)) (ob_ne h8 h9 (by decide)))).trans h8
          have h37 := (f32.1 a (nin2 (ob_ne h2 h5 (by decide)) (ob_ne h2 h9 (by decide)))).trans h2
          have h38 := (f32.1 z0 (nin2 (show z0 ≠ ac by omega) (show z0 ≠ vd by omega))).trans h10
          have hF39 := hF12.trf f32 (by intro z hz; simp only [List.mem_cons, List.not_mem_nil, or_false] at hz ⊢; try omega)
          have tp40 : M15.2.1 = z0 + 2 := by rw [f32.2]; exact tp13
          have hV41 := hV11.keep f32.gm (n7c h5 (by decide) (n7c h9 (by decide) (n7nil)))
          show pl _ _ _ (134, [(0, .ref ac), (1, .ref a), (2, .int (nI p)), (3, .ref z0), (4, .int (nI i))], [.int 1], M15) _
          exact ps_ret rfl rfl (Or.inr ⟨s'29, by
              unfold cdS
              rw [if_neg h41, if_neg h42, if_neg (by rw [← hr9, show by2 f (p + 14 + by4 f (p + 10)) - i = 0 by omega]; exact Nat.one_ne_zero)]
              exact q131_s, q131_l, rfl, h30, h31, by rw [tp0]; exact h37, hF39, by rw [tp0]; exact tp40⟩)
      · have c_75 : ¬ ((nI (by2 f (p + 14 + by4 f (p + 10)))) ≤ (nI i)) := of_decide_eq_false c_75
        have n_75 : ¬ (by2 f (p + 14 + by4 f (p + 10)) ≤ i) := fun h9 => c_75 ((le_nI (p := by2 f (p + 14 + by4 f (p + 10))) (n := i) (Nat.lt_trans (by2_lt _ _) (by decide)) (by omega)).mpr h9)
        refine ps_st (S' := (79, [(0, .ref ac), (1, .ref a), (2, .int (nI p)), (3, .ref z0), (4, .int (nI i))], [.ref ac], M1)) rfl rfl rfl ?_
        refine ps_st (S' := (80, [(0, .ref ac), (1, .ref a), (2, .int (nI p)), (3, .ref z0), (4, .int (nI i))], [.ref z0, .ref ac], M1)) rfl rfl rfl ?_
        refine ps_st (S' := (81, [(0, .ref ac), (1, .ref a), (2, .int (nI p)), (3, .ref z0), (4, .int (nI i))], [.ref z0, .ref z0, .ref ac], M1)) rfl rfl rfl ?_
        refine ps_get (S' := (84, [(0, .ref ac), (1, .ref a), (2, .int (nI p)), (3, .ref z0), (4, .int (nI i))], [.int (nI (p + 14 + by4 f (p + 10) + 2)), .ref z0, .ref ac], M1)) rfl hl_z0 rfl rfl ?_
        refine ps_st (S' := (86, [(0, .ref ac), (1, .ref a), (2, .int (nI p)), (3, .ref z0), (4, .int (nI i))], [.int 8, .int (nI (p + 14 + by4 f (p + 10) + 2)), .ref z0, .ref ac], M1)) rfl rfl rfl ?_
        refine ps_st (S' := (88, [(0, .ref ac), (1, .ref a), (2, .int (nI p)), (3, .ref z0), (4, .int (nI i))], [.int (nI i), .int 8, .int (nI (p + 14 + by4 f (p + 10) + 2)), .ref z0, .ref ac], M1)) rfl rfl rfl ?_
        refine ps_st (S' := (89, [(0, .ref ac), (1, .ref a), (2, .int (nI p)), (3, .ref z0), (4, .int (nI i))], [.int (8 * (nI i)), .int (nI (p + 14 + by4 f (p + 10) + 2)), .ref z0, .ref ac], M1)) rfl rfl rfl ?_
        rw [nI_mul1 (p := 8) (k := i) (x := 8) (y := (nI i)) rfl rfl (by omega)]
        show pl _ _ _ (_, [(0, .ref ac), (1, .ref a), (2, .int (nI p)), (3, .ref z0), (4, .int (nI i))], [.int (nI (8 * i)), .int (nI (p + 14 + by4 f (p + 10) + 2)), .ref z0, .ref ac], M1) _
        refine ps_st (S' := (90, [(0, .ref ac), (1, .ref a), (2, .int (nI p)), (3, .ref z0), (4, .int (nI i))], [.int ((nI (p + 14 + by4 f (p + 10) + 2)) + (nI (8 * i))), .ref z0, .ref ac], M1)) rfl rfl rfl ?_
        rw [nI_add1 (p := p + 14 + by4 f (p + 10) + 2) (k := 8 * i) (x := (nI (8 * i))) rfl (by omega)]
        show pl _ _ _ (_, [(0, .ref ac), (1, .ref a), (2, .int (nI p)), (3, .ref z0), (4, .int (nI i))], [.int (nI (p + 14 + by4 f (p + 10) + 2 + 8 * i)), .ref z0, .ref ac], M1) _
        refine pl_call (a := [.ref ac, .ref z0, .int (nI (p + 14 + by4 f (p + 10) + 2 + 8 * i))]) (rest := []) rfl rfl rfl (dk_rowHolds (f := f) (n := n) (N := N) (q := q) (E := E) (ac := ac) (c := c) (b := b) (da := da) (vd := vd) (fr := fr) (mr := mr) (fa := fa) (ic := ic) (mj := mj) (na := na) (pa := pa) (mi := mi) (ru := ru) (wa := wa) (s1 := (nI s)) (k1 := k1) (k2 := k2) (k3 := k3) (k4 := k4) (k5 := k5) (k6 := k6) (k7 := k7) (cd0 := z0) (p := (p + 14 + by4 f (p + 10) + 2 + 8 * i)) (len := (by4 f (p + 10))) (y1 := (nI (by2 f (p + 6)))) (y2 := (nI (by2 f (p + 8)))) (y3 := (nI (p + 14 + by4 f (p + 10) + 2))) (y4 := (nI (by2 f (p + 14 + by4 f (p + 10))))) (y6 := (nI mj)) (y8 := 0) (v5 := .ref q) (v7 := .ref (z0 + 1)) (v9 := .null) (v10 := .null) hl_ac hl_b hl_da hl_z0 (hn) (by omega) (by omega) (hV1)) (fun v42 M43 q44 => ?_)
        obtain ⟨rfl, rfl⟩ := q44
        show pl _ _ _ (93, [(0, .ref ac), (1, .ref a), (2, .int (nI p)), (3, .ref z0), (4, .int (nI i))], [.int (nI (rwN f E (by4 f (p + 10)) (p + 14 + by4 f (p + 10) + 2 + 8 * i)))], M1) _
        refine ps_if (S1 := (107, [(0, .ref ac), (1, .ref a), (2, .int (nI p)), (3, .ref z0), (4, .int (nI i))], [], M1)) (S2 := (96, [(0, .ref ac), (1, .ref a), (2, .int (nI p)), (3, .ref z0), (4, .int (nI i))], [], M1)) rfl rfl rfl (fun c_93 => ?_) (fun c_93 => ?_)
        · have c_93 : ¬ (nI (rwN f E (by4 f (p + 10)) (p + 14 + by4 f (p + 10) + 2 + 8 * i))) = 0 := of_decide_eq_true c_93
          have n_93 : ¬ (rwN f E (by4 f (p + 10)) (p + 14 + by4 f (p + 10) + 2 + 8 * i) = 0) := fun h9 => c_93 ((eq_nI (p := rwN f E (by4 f (p + 10)) (p + 14 + by4 f (p + 10) + 2 + 8 * i)) (n := 0) (Nat.lt_trans (le1_rw _ _ _ _) (by decide)) (by decide)).mpr h9)
          refine ps_st (S' := (110, [(4, .int ((nI i) + 1)), (0, .ref ac), (1, .ref a), (2, .int (nI p)), (3, .ref z0)], [], M1)) rfl rfl rfl ?_
          rw [nI_add1 (p := i) (k := 1) (x := 1) rfl (by omega)]
          show pl _ _ _ (_, [(4, .int (nI (i + 1))), (0, .ref ac), (1, .ref a), (2, .int (nI p)), (3, .ref z0)], [], M1) _
          refine ps_st (S' := (69, [(0, .ref ac), (1, .ref a), (2, .int (nI p)), (3, .ref z0), (4, .int (nI (i + 1)))], [], M1)) rfl rfl rfl ?_
          exact ih (i + 1) M1 hl_ac hl_b hl_da hl_c hl_vd hl_a hl_z0 hV1 hF1 (tp1) (by omega) (h41) (h42) (by
              rw [← hr9, rwA_st (i := i) (by omega), if_neg (by omega)])
        · have c_93 : ¬ (¬ (nI (rwN f E (by4 f (p + 10)) (p + 14 + by4 f (p + 10) + 2 + 8 * i))) = 0) := of_decide_eq_false c_93
          have n_93 : rwN f E (by4 f (p + 10)) (p + 14 + by4 f (p + 10) + 2 + 8 * i) = 0 := (eq_nI (p := rwN f E (by4 f (p + 10)) (p + 14 + by4 f (p + 10) + 2 + 8 * i)) (n := 0) (Nat.lt_trans (le1_rw _ _ _ _) (by decide)) (by decide)).mp (Decidable.not_not.mp c_93)
          refine ps_st (S' := (97, [(0, .ref ac), (1, .ref a), (2, .int (nI p)), (3, .ref z0), (4, .int (nI i))], [.ref ac], M1)) rfl rfl rfl ?_
          refine ps_get (S' := (100, [(0, .ref ac), (1, .ref a), (2, .int (nI p)), (3, .ref z0), (4, .int (nI i))], [.ref vd], M1)) rfl hl_ac rfl rfl ?_
          refine ps_st (S' := (102, [(0, .ref ac), (1, .ref a), (2, .int (nI p)), (3, .ref z0), (4, .int (nI i))], [.int 43, .ref vd], M1)) rfl rfl rfl ?_
          refine ps_st (S' := (103, [(0, .ref ac), (1, .ref a), (2, .int (nI p)), (3, .ref z0), (4, .int (nI i))], [.int (nI p), .int 43, .ref vd], M1)) rfl rfl rfl ?_
          refine pl_call (a := [.ref vd, .int 43, .int (nI p)]) (rest := []) rfl rfl rfl (dk_wrong (vd := vd) (ru := ru) (wa := wa) (x1 := 43) (x2 := (nI p)) hl_vd) (fun v45 M46 q47 => ?_)
          obtain ⟨rfl, h48, f49⟩ := q47
          have h51 := (f49.1 ac (nin1 (ob_ne hl_ac hl_vd (by decide)))).trans hl_ac
          have h52 := (f49.1 b (nin1 (ob_ne hl_b hl_vd (by decide)))).trans hl_b
          have h53 := (f49.1 da (nin1 (Ne.symm (ob_ar hl_vd hl_da)))).trans hl_da
          have h54 := (f49.1 c (nin1 (ob_ne hl_c hl_vd (by decide)))).trans hl_c
          have h55 := (f49.1 a (nin1 (ob_ne hl_a hl_vd (by decide)))).trans hl_a
          have h56 := (f49.1 z0 (nin1 (show z0 ≠ vd by omega))).trans hl_z0
          have hF57 := hF1.trf f49 (by intro z hz; simp only [List.mem_cons, List.not_mem_nil, or_false] at hz ⊢; try omega)
          have tp58 : M46.2.1 = z0 + 2 := by rw [f49.2]; exact tp1
          have hV59 := hV1.keep f49.gm (n7c hl_vd (by decide) (n7nil))
          show pl _ _ _ (106, [(0, .ref ac), (1, .ref a), (2, .int (nI p)), (3, .ref z0), (4, .int (nI i))], [.int 0], M46) _
          exact ps_ret rfl rfl (Or.inl ⟨(43, p), by
              unfold cdS
              rw [if_neg h41, if_neg h42, if_pos (by rw [← hr9, rwA_st (i := i) (by omega), if_pos (by omega)])], rfl, h48, hF57, by rw [tp0]; exact tp58⟩)
  refine ps_newz rfl tp0 (fun M60 h61 f62 tp63 => ?_)
  have h64 := (f62 ac (show ac ≠ z0 by omega)).trans h_ac
  have h65 := (f62 b (show b ≠ z0 by omega)).trans h_b
  have h66 := (f62 da (show da ≠ z0 by omega)).trans h_da
  have h67 := (f62 c (show c ≠ z0 by omega)).trans h_c
  have h68 := (f62 vd (show vd ≠ z0 by omega)).trans h_vd
  have h69 := (f62 a (show a ≠ z0 by omega)).trans h_a
  have hV70 := hV.new tp0 f62 tp63
  have hF71 := hF.up (Or.inr (by omega)) f62 (by omega)
  show pl _ _ _ (3, [(0, .ref ac), (1, .ref a), (2, .int (nI p))], [.ref z0], M60) _
  refine ps_st (S' := (4, [(0, .ref ac), (1, .ref a), (2, .int (nI p))], [.ref z0, .ref z0], M60)) rfl rfl rfl ?_
  refine ps_st (S' := (5, [(0, .ref ac), (1, .ref a), (2, .int (nI p))], [.ref ac, .ref z0, .ref z0], M60)) rfl rfl rfl ?_
  refine ps_get (S' := (8, [(0, .ref ac), (1, .ref a), (2, .int (nI p))], [.ref c, .ref z0, .ref z0], M60)) rfl h64 rfl rfl ?_
  refine ps_st (S' := (9, [(0, .ref ac), (1, .ref a), (2, .int (nI p))], [.int (nI p), .ref c, .ref z0, .ref z0], M60)) rfl rfl rfl ?_
  refine ps_st (S' := (11, [(0, .ref ac), (1, .ref a), (2, .int (nI p))], [.int 6, .int (nI p), .ref c, .ref z0, .ref z0], M60)) rfl rfl rfl ?_
  refine ps_st (S' := (12, [(0, .ref ac), (1, .ref a), (2, .int (nI p))], [.int ((nI p) + 6), .ref c, .ref z0, .ref z0], M60)) rfl rfl rfl ?_
  rw [nI_add1 (p := p) (k := 6) (x := 6) rfl (by omega)]
  show pl _ _ _ (_, [(0, .ref ac), (1, .ref a), (2, .int (nI p))], [.int (nI (p + 6)), .ref c, .ref z0, .ref z0], M60) _
  refine pl_call (a := [.ref z0, .ref c, .int (nI (p + 6))]) (rest := [.ref z0]) rfl rfl rfl (dk_code0 (f := f) (n := n) (q := q) (c := c) (b := b) (da := da) (fr := fr) (mr := mr) (fa := fa) (ic := ic) (mj := mj) (na := na) (pa := pa) (cd0 := z0) (p0 := (p + 6)) (mi := mi) (k1 := k1) (k2 := k2) (k3 := k3) (k4 := k4) (k5 := k5) (k6 := k6) (k7 := k7) h61 h67 h65 h66 (hn) (show p + 14 + by4 f (p + 10) + 2 ≤ n by omega) (by omega) (by omega) (by omega) (by omega)) (fun v72 M73 q74 => ?_)
  obtain ⟨rfl, h75, f76, tp77⟩ := q74
  rw [tp63] at h75 tp77
  have h78 := (f76.1 ac (by omega) (nin1 (show ac ≠ z0 by omega))).trans h64
  have h79 := (f76.1 b (by omega) (nin1 (show b ≠ z0 by omega))).trans h65
  have h80 := (f76.1 da (by omega) (nin1 (show da ≠ z0 by omega))).trans h66
  have h81 := (f76.1 c (by omega) (nin1 (show c ≠ z0 by omega))).trans h67
  have h82 := (f76.1 vd (by omega) (nin1 (show vd ≠ z0 by omega))).trans h68
  have h83 := (f76.1 a (by omega) (nin1 (show a ≠ z0 by omega))).trans h69
  have hF84 := hF71.tr f76 (by intro z hz; simp only [List.mem_cons, List.not_mem_nil, or_false] at hz ⊢; try omega)
  have hV85 := hV70.keep f76 (n7c h61 (by decide) (n7nil))
  show pl _ _ _ (15, [(0, .ref ac), (1, .ref a), (2, .int (nI p))], [.ref z0], M73) _
  refine ps_st (S' := (16, [(3, .ref z0), (0, .ref ac), (1, .ref a), (2, .int (nI p))], [], M73)) rfl rfl rfl ?_
  refine ps_st (S' := (17, [(3, .ref z0), (0, .ref ac), (1, .ref a), (2, .int (nI p))], [.ref z0], M73)) rfl rfl rfl ?_
  refine ps_get (S' := (20, [(3, .ref z0), (0, .ref ac), (1, .ref a), (2, .int (nI p))], [.int (nI (by4 f (p + 10)))], M73)) rfl h75 rfl rfl ?_
  refine ps_st (S' := (21, [(3, .ref z0), (0, .ref ac), (1, .ref a), (2, .int (nI p))], [.int 1, .int (nI (by4 f (p + 10)))], M73)) rfl rfl rfl ?_
  refine ps_if2 (S1 := (33, [(0, .ref ac), (2, .int (nI p))], [], M73)) (S2 := (24, [(3, .ref z0), (0, .ref ac), (1, .ref a), (2, .int (nI p))], [], M73)) rfl rfl rfl (fun c_21 => ?_) (fun c_21 => ?_)
  · have c_21 : (nI (by4 f (p + 10))) < 1 := of_decide_eq_true c_21
    have n_21 : by4 f (p + 10) < 1 := (lt_nI (p := by4 f (p + 10)) (n := 1) (by omega) (by decide)).mp c_21
    refine ps_st (S' := (34, [(0, .ref ac), (2, .int (nI p))], [.ref ac], M73)) rfl rfl rfl ?_
    refine ps_get (S' := (37, [(0, .ref ac), (2, .int (nI p))], [.ref vd], M73)) rfl h78 rfl rfl ?_
    refine ps_st (S' := (39, [(0, .ref ac), (2, .int (nI p))], [.int 41, .ref vd], M73)) rfl rfl rfl ?_
    refine ps_st (S' := (40, [(0, .ref ac), (2, .int (nI p))], [.int (nI p), .int 41, .ref vd], M73)) rfl rfl rfl ?_
    refine pl_call (a := [.ref vd, .int 41, .int (nI p)]) (rest := []) rfl rfl rfl (dk_wrong (vd := vd) (ru := ru) (wa := wa) (x1 := 41) (x2 := (nI p)) h82) (fun v86 M87 q88 => ?_)
    obtain ⟨rfl, h89, f90⟩ := q88
    have h92 := (f90.1 ac (nin1 (ob_ne h78 h82 (by decide)))).trans h78
    have h93 := (f90.1 b (nin1 (ob_ne h79 h82 (by decide)))).trans h79
    have h94 := (f90.1 da (nin1 (Ne.symm (ob_ar h82 h80)))).trans h80
    have h95 := (f90.1 c (nin1 (ob_ne h81 h82 (by decide)))).trans h81
    have h96 := (f90.1 a (nin1 (ob_ne h83 h82 (by decide)))).trans h83
    have h97 := (f90.1 z0 (nin1 (show z0 ≠ vd by omega))).trans h75
    have hF98 := hF84.trf f90 (by intro z hz; simp only [List.mem_cons, List.not_mem_nil, or_false] at hz ⊢; try omega)
    have tp99 : M87.2.1 = z0 + 2 := by rw [f90.2]; exact tp77
    have hV100 := hV85.keep f90.gm (n7c h82 (by decide) (n7nil))
    show pl _ _ _ (43, [(0, .ref ac), (2, .int (nI p))], [.int 0], M87) _
    exact ps_ret rfl rfl (Or.inl ⟨(41, p), by
        unfold cdS
        first | ((repeat first | rw [if_pos (by omega)] | rw [if_neg (by omega)]) <;> first | rfl | omega) | ((repeat' split) <;> first | rfl | (exfalso; omega) | omega), rfl, h89, hF98, by rw [tp0]; exact tp99⟩)
  · have c_21 : ¬ ((nI (by4 f (p + 10))) < 1) := of_decide_eq_false c_21
    have n_21 : ¬ (by4 f (p + 10) < 1) := fun h9 => c_21 ((lt_nI (p := by4 f (p + 10)) (n := 1) (by omega) (by decide)).mpr h9)
    refine ps_st (S' := (25, [(3, .ref z0), (0, .ref ac), (1, .ref a), (2, .int (nI p))], [.ref z0], M73)) rfl rfl rfl ?_
    refine ps_get (S' := (28, [(3, .ref z0), (0, .ref ac), (1, .ref a), (2, .int (nI p))], [.int (nI (by4 f (p + 10)))], M73)) rfl h75 rfl rfl ?_
    refine ps_st (S' := (30, [(3, .ref z0), (0, .ref ac), (1, .ref a), (2, .int (nI p))], [.int 65535, .int (nI (by4 f (p + 10)))], M73)) rfl rfl rfl ?_
    refine ps_if2 (S1 := (44, [(3, .ref z0), (0, .ref ac), (1, .ref a), (2, .int (nI p))], [], M73)) (S2 := (33, [(0, .ref ac), (2, .int (nI p))], [], M73)) rfl rfl rfl (fun c_30 => ?_) (fun c_30 => ?_)
    · have c_30 : (nI (by4 f (p + 10))) ≤ 65535 := of_decide_eq_true c_30
      have n_30 : by4 f (p + 10) ≤ 65535 := (le_nI (p := by4 f (p + 10)) (n := 65535) (by omega) (by decide)).mp c_30
      refine ps_st (S' := (45, [(3, .ref z0), (0, .ref ac), (1, .ref a), (2, .int (nI p))], [.ref z0], M73)) rfl rfl rfl ?_
      refine ps_get (S' := (48, [(3, .ref z0), (0, .ref ac), (1, .ref a), (2, .int (nI p))], [.int (nI (by2 f (p + 8)))], M73)) rfl h75 rfl rfl ?_
      refine ps_st (S' := (49, [(3, .ref z0), (0, .ref ac), (1, .ref a), (2, .int (nI p))], [.ref a, .int (nI (by2 f (p + 8)))], M73)) rfl rfl rfl ?_
      refine ps_get (S' := (52, [(3, .ref z0), (0, .ref ac), (1, .ref a), (2, .int (nI p))], [.int (nI w), .int (nI (by2 f (p + 8)))], M73)) rfl h83 rfl rfl ?_
      refine ps_if2 (S1 := (66, [(3, .ref z0), (0, .ref ac), (1, .ref a), (2, .int (nI p))], [], M73)) (S2 := (55, [(3, .ref z0), (0, .ref ac), (1, .ref a), (2, .int (nI p))], [], M73)) rfl rfl rfl (fun c_52 => ?_) (fun c_52 => ?_)
      · have c_52 : (nI w) ≤ (nI (by2 f (p + 8))) := of_decide_eq_true c_52
        have n_52 : w ≤ by2 f (p + 8) := (le_nI (p := w) (n := by2 f (p + 8)) (by omega) (Nat.lt_trans (by2_lt _ _) (by decide))).mp c_52
        refine ps_st (S' := (67, [(3, .ref z0), (0, .ref ac), (1, .ref a), (2, .int (nI p))], [.int 0], M73)) rfl rfl rfl ?_
        refine ps_st (S' := (69, [(0, .ref ac), (1, .ref a), (2, .int (nI p)), (3, .ref z0), (4, .int 0)], [], M73)) rfl rfl rfl ?_
        exact (LL kf) (0) M73 h78 h79 h80 h81 h82 h83 h75 hV85 hF84 (tp77) (by omega) (by omega) (by omega) (rfl)
      · have c_52 : ¬ ((nI w) ≤ (nI (by2 f (p + 8)))) := of_decide_eq_false c_52
        have n_52 : ¬ (w ≤ by2 f (p + 8)) := fun h9 => c_52 ((le_nI (p := w) (n := by2 f (p + 8)) (by omega) (Nat.lt_trans (by2_lt _ _) (by decide))).mpr h9)
        refine ps_st (S' := (56, [(3, .ref z0), (0, .ref ac), (1, .ref a), (2, .int (nI p))], [.ref ac], M73)) rfl rfl rfl ?_
        refine ps_get (S' := (59, [(3, .ref z0), (0, .ref ac), (1, .ref a), (2, .int (nI p))], [.ref vd], M73)) rfl h78 rfl rfl ?_
        refine ps_st (S' := (61, [(3, .ref z0), (0, .ref ac), (1, .ref a), (2, .int (nI p))], [.int 42, .ref vd], M73)) rfl rfl rfl ?_
        refine ps_st (S' := (62, [(3, .ref z0), (0, .ref ac), (1, .ref a), (2, .int (nI p))], [.int (nI p), .int 42, .ref vd], M73)) rfl rfl rfl ?_
        refine pl_call (a := [.ref vd, .int 42, .int (nI p)]) (rest := []) rfl rfl rfl (dk_wrong (vd := vd) (ru := ru) (wa := wa) (x1 := 42) (x2 := (nI p)) h82) (fun v101 M102 q103 => ?_)
        obtain ⟨rfl, h104, f105⟩ := q103
        have h107 := (f105.1 ac (nin1 (ob_ne h78 h82 (by decide)))).trans h78
        have h108 := (f105.1 b (nin1 (ob_ne h79 h82 (by decide)))).trans h79
        have h109 := (f105.1 da (nin1 (Ne.symm (ob_ar h82 h80)))).trans h80
        have h110 := (f105.1 c (nin1 (ob_ne h81 h82 (by decide)))).trans h81
        have h111 := (f105.1 a (nin1 (ob_ne h83 h82 (by decide)))).trans h83
        have h112 := (f105.1 z0 (nin1 (show z0 ≠ vd by omega))).trans h75
        have hF113 := hF84.trf f105 (by intro z hz; simp only [List.mem_cons, List.not_mem_nil, or_false] at hz ⊢; try omega)
        have tp114 : M102.2.1 = z0 + 2 := by rw [f105.2]; exact tp77
        have hV115 := hV85.keep f105.gm (n7c h82 (by decide) (n7nil))
        show pl _ _ _ (65, [(3, .ref z0), (0, .ref ac), (1, .ref a), (2, .int (nI p))], [.int 0], M102) _
        exact ps_ret rfl rfl (Or.inl ⟨(42, p), by
            unfold cdS
            first | ((repeat first | rw [if_pos (by omega)] | rw [if_neg (by omega)]) <;> first | rfl | omega) | ((repeat' split) <;> first | rfl | (exfalso; omega) | omega), rfl, h104, hF113, by rw [tp0]; exact tp114⟩)
    · have c_30 : ¬ ((nI (by4 f (p + 10))) ≤ 65535) := of_decide_eq_false c_30
      have n_30 : ¬ (by4 f (p + 10) ≤ 65535) := fun h9 => c_30 ((le_nI (p := by4 f (p + 10)) (n := 65535) (by omega) (by decide)).mpr h9)
      refine ps_st (S' := (34, [(0, .ref ac), (2, .int (nI p))], [.ref ac], M73)) rfl rfl rfl ?_
      refine ps_get (S' := (37, [(0, .ref ac), (2, .int (nI p))], [.ref vd], M73)) rfl h78 rfl rfl ?_
      refine ps_st (S' := (39, [(0, .ref ac), (2, .int (nI p))], [.int 41, .ref vd], M73)) rfl rfl rfl ?_
      refine ps_st (S' := (40, [(0, .ref ac), (2, .int (nI p))], [.int (nI p), .int 41, .ref vd], M73)) rfl rfl rfl ?_
      refine pl_call (a := [.ref vd, .int 41, .int (nI p)]) (rest := []) rfl rfl rfl (dk_wrong (vd := vd) (ru := ru) (wa := wa) (x1 := 41) (x2 := (nI p)) h82) (fun v116 M117 q118 => ?_)
      obtain ⟨rfl, h119, f120⟩ := q118
      have h122 := (f120.1 ac (nin1 (ob_ne h78 h82 (by decide)))).trans h78
      have h123 := (f120.1 b (nin1 (ob_ne h79 h82 (by decide)))).trans h79
      have h124 := (f120.1 da (nin1 (Ne.symm (ob_ar h82 h80)))).trans h80
      have h125 := (f120.1 c (nin1 (ob_ne h81 h82 (by decide)))).trans h81
      have h126 := (f120.1 a (nin1 (ob_ne h83 h82 (by decide)))).trans h83
      have h127 := (f120.1 z0 (nin1 (show z0 ≠ vd by omega))).trans h75
      have hF128 := hF84.trf f120 (by intro z hz; simp only [List.mem_cons, List.not_mem_nil, or_false] at hz ⊢; try omega)
      have tp129 : M117.2.1 = z0 + 2 := by rw [f120.2]; exact tp77
      have hV130 := hV85.keep f120.gm (n7c h82 (by decide) (n7nil))
      show pl _ _ _ (43, [(0, .ref ac), (2, .int (nI p))], [.int 0], M117) _
      exact ps_ret rfl rfl (Or.inl ⟨(41, p), by
          unfold cdS
          first | ((repeat first | rw [if_pos (by omega)] | rw [if_neg (by omega)]) <;> first | rfl | omega) | ((repeat' split) <;> first | rfl | (exfalso; omega) | omega), rfl, h119, hF128, by rw [tp0]; exact tp129⟩)
