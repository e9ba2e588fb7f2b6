/-! an entry of the pool, as both sides tell it (my own text) -/
section ENA
variable {f : Nat → Int32} {n : Nat} {E : List (Nat × Nat)} {k mj : Nat}
/-- part 0 of entry j is its tag, 1 and 2 its indexes -/
def enN (f : Nat → Int32) (E : List (Nat × Nat)) (j p : Nat) : Nat := if p = 0 then tg f E j else if p = 1 then fi f E j else se f E j
def enI (f : Nat → Int32) (E : List (Nat × Nat)) (N : Nat) (k p : Int32) : Int32 := if k < 0 ∨ nI N ≤ k then -1 else nI (enN f E k.toNatClampNeg p.toNatClampNeg)
/-- what is kept tells it -/
def enK (ko : Option (Nat × (Nat → Int32))) (k p : Int32) : Int32 := match ko with
  | none => -1
  | some r => match s_whole r.2 r.1 with
    | .inl _ => -1
    | .inr y => enI r.2 y.1 (by2 r.2 8) k p
theorem enK_is {r : Nat × (Nat → Int32)} {k p : Int32} {y : Nat × Nat × Nat × Nat} (h : s_whole r.2 r.1 = .inr (E, y)) : enK (some r) k p = enI r.2 E (by2 r.2 8) k p := by
  show (match s_whole r.2 r.1 with | .inl _ => -1 | .inr y => enI r.2 y.1 (by2 r.2 8) k p) = _
  rw [h]
theorem i32_3 {p : Int32} (h0 : ¬ p < 0) (h1 : p ≤ 2) : p = 0 ∨ p = 1 ∨ p = 2 := by
  have a := Int32.le_iff_toInt_le.mp (Int32.not_lt.mp h0)
  have b := Int32.le_iff_toInt_le.mp h1
  have e0 : (0 : Int32).toInt = 0 := rfl
  have e1 : (1 : Int32).toInt = 1 := rfl
  have e2 : (2 : Int32).toInt = 2 := rfl
  rcases (show p.toInt = 0 ∨ p.toInt = 1 ∨ p.toInt = 2 by omega) with h | h | h
  · exact Or.inl (Int32.toInt_inj.mp (by omega))
  · exact Or.inr (Or.inl (Int32.toInt_inj.mp (by omega)))
  · exact Or.inr (Or.inr (Int32.toInt_inj.mp (by omega)))
/-- a number that isn't below 0 -/
theorem i32_nn {k : Int32} (h : ¬ k < 0) : k = nI k.toNatClampNeg := (mi_nI h).symm
theorem i32_in {N : Nat} {k : Int32} (hN : N < 65536) (h : ¬ (k < 0 ∨ nI N ≤ k)) : k = nI k.toNatClampNeg ∧ k.toNatClampNeg < N := by
  have h0 : ¬ k < 0 := fun q => h (Or.inl q)
  have e := i32_nn h0
  refine ⟨e, ?_⟩
  have h1 := Int32.lt_iff_toInt_lt.mp (Int32.not_le.mp (fun q => h (Or.inr q)))
  rw [nI_val (by omega)] at h1
  have h2 := Int32.le_iff_toInt_le.mp (Int32.not_lt.mp h0)
  have e0 : (0 : Int32).toInt = 0 := rfl
  show k.toInt.toNat < N
  omega
theorem tgs_of {mj p' : Nat} (h : s_pool f n mj = .inr (p', E)) : ∀ q ∈ E, tgOk mj (by1 f q.2) := by
  have key : ∀ {r k p p' : Nat} {E0 E : List (Nat × Nat)} {N : Nat}, (∀ q ∈ E0, tgOk mj (by1 f q.2)) → s_ents f n mj N r k p E0 = .inr (p', E) → ∀ q ∈ E, tgOk mj (by1 f q.2) := by
    intro r
    induction r with
    | zero => intro k p p' E0 E N h0 h; cases h; exact h0
    | succ r ih =>
      intro k p p' E0 E N h0 h
      unfold s_ents at h
      split at h
      · cases h; exact h0
      · cases he : s_entry f n mj N k p with
        | inl e => rw [he] at h; cases h
        | inr y =>
          obtain ⟨p2, x⟩ := y
          rw [he] at h
          refine ih ?_ h
          intro q hq
          rcases List.mem_append.mp hq with hq | hq
          · exact h0 q hq
          · have e : q = (k, p) := by simpa using hq
            rw [e]
            unfold s_entry at he
            split at he
            · cases he
            · split at he
              · cases he
              · rename_i hT
                exact Decidable.not_not.mp hT
  unfold s_pool at h
  split at h
  · cases h
  · split at h
    · cases h
    · exact key (fun q hq => by cases hq) h
theorem tg_ok {mj p' : Nat} (h : s_pool f n mj = .inr (p', E)) : tg f E k = 0 ∨ tgOk mj (tg f E k) := by
  unfold tg
  cases hk : lk E k with
  | none => exact Or.inl rfl
  | some p => exact Or.inr (tgs_of h _ (lk_in hk))
theorem ix_7 (h : tg f E k < 7) : fi f E k = 0 ∧ se f E k = 0 := by
  unfold tg at h
  unfold fi se
  cases hk : lk E k with
  | none => exact ⟨rfl, rfl⟩
  | some p =>
    rw [hk] at h
    dsimp only at h ⊢
    unfold ixa ixb
    rw [if_pos h, if_pos h]
    exact ⟨rfl, rfl⟩
theorem se_1 (h : tg f E k = 7 ∨ tg f E k = 8 ∨ tg f E k = 16 ∨ tg f E k = 19 ∨ tg f E k = 20) : se f E k = 0 := by
  unfold tg at h
  unfold se
  cases hk : lk E k with
  | none => rfl
  | some p =>
    rw [hk] at h
    dsimp only at h ⊢
    unfold ixb
    rw [if_neg (by omega), if_neg (by omega), if_pos (by omega)]
end ENA
set_option maxHeartbeats 1000000 in
theorem dk_entry0 {g : xe_G} {M : mi_H} {o ca fl : Nat} {cn wp k p : Int32} (h_o : M.1 o = some (ob 11 [.ref ca, .int cn, .ref fl, .null, .int wp])) (hp0 : ¬ p < 0) (hp1 : p ≤ 2) : pt (mT g) 8 [.ref o, .int k, .int p] M (fun v M' => (v = some (.int (-1)) ∧ M = M')) := by
  refine pt_in (b := mb_8 g) rfl (fun kf => ?_)
  show pl (mT g) kf (mb_8 g).2 (0, [(0, .ref o), (1, .int k), (2, .int p)], [], M) _
  refine ps_st (S' := (1, [(0, .ref o), (1, .int k), (2, .int p)], [.int p], M)) rfl rfl rfl ?_
  refine ps_if (S1 := (9, [(0, .ref o), (1, .int k), (2, .int p)], [], M)) (S2 := (4, [(0, .ref o), (1, .int k), (2, .int p)], [], M)) rfl rfl rfl (fun c_1 => ?_) (fun c_1 => ?_)
  · exact absurd (of_decide_eq_true c_1) (hp0)
  refine ps_st (S' := (5, [(0, .ref o), (1, .int k), (2, .int p)], [.int p], M)) rfl rfl rfl ?_
  refine ps_st (S' := (6, [(0, .ref o), (1, .int k), (2, .int p)], [.int 2, .int p], M)) rfl rfl rfl ?_
  refine ps_if2 (S1 := (19, [(0, .ref o), (1, .int k), (2, .int p)], [], M)) (S2 := (9, [(0, .ref o), (1, .int k), (2, .int p)], [], M)) rfl rfl rfl (fun c_6 => ?_) (fun c_6 => ?_)
  rotate_left
  · exact absurd (hp1) (of_decide_eq_false c_6)
  refine ps_st (S' := (20, [(0, .ref o), (1, .int k), (2, .int p)], [.ref o], M)) rfl rfl rfl ?_
  refine ps_get (S' := (23, [(0, .ref o), (1, .int k), (2, .int p)], [.null], M)) rfl h_o rfl rfl ?_
  refine ps_st (S' := (44, [], [], M)) rfl rfl rfl ?_
  refine ps_st (S' := (45, [], [.int (-1)], M)) rfl rfl rfl ?_
  exact ps_ret rfl rfl (⟨rfl, rfl⟩)
set_option maxHeartbeats 1000000 in
theorem dk_entryN {g : xe_G} {M : mi_H} {f : Nat → Int32} {n N q : Nat} {E : List (Nat × Nat)} {o ca fl c b : Nat} {cn wp : Int32} {w : List Value} {k p : Int32} (h_o : M.1 o = some (ob 11 [.ref ca, .int cn, .ref fl, .ref c, .int wp])) (h_c : M.1 c = some (ob 3 (.ref b :: .ref q :: w))) (hp0 : ¬ p < 0) (hp1 : p ≤ 2) (hV : PV g f n N E q M) (hk : k < 0 ∨ nI N ≤ k) : pt (mT g) 8 [.ref o, .int k, .int p] M (fun v M' => (v = some (.int (-1)) ∧ M = M')) := by
  refine pt_in (b := mb_8 g) rfl (fun kf => ?_)
  show pl (mT g) kf (mb_8 g).2 (0, [(0, .ref o), (1, .int k), (2, .int p)], [], M) _
  obtain ⟨hL9, H, m, qq, F, cc, hP9, -, -, hb9, -⟩ := id hV
  have h_q := hP9.1
  have hN9 := hb9.2.2.1
  refine ps_st (S' := (1, [(0, .ref o), (1, .int k), (2, .int p)], [.int p], M)) rfl rfl rfl ?_
  refine ps_if (S1 := (9, [(0, .ref o), (1, .int k), (2, .int p)], [], M)) (S2 := (4, [(0, .ref o), (1, .int k), (2, .int p)], [], M)) rfl rfl rfl (fun c_1 => ?_) (fun c_1 => ?_)
  · exact absurd (of_decide_eq_true c_1) (hp0)
  refine ps_st (S' := (5, [(0, .ref o), (1, .int k), (2, .int p)], [.int p], M)) rfl rfl rfl ?_
  refine ps_st (S' := (6, [(0, .ref o), (1, .int k), (2, .int p)], [.int 2, .int p], M)) rfl rfl rfl ?_
  refine ps_if2 (S1 := (19, [(0, .ref o), (1, .int k), (2, .int p)], [], M)) (S2 := (9, [(0, .ref o), (1, .int k), (2, .int p)], [], M)) rfl rfl rfl (fun c_6 => ?_) (fun c_6 => ?_)
  rotate_left
  · exact absurd (hp1) (of_decide_eq_false c_6)
  refine ps_st (S' := (20, [(0, .ref o), (1, .int k), (2, .int p)], [.ref o], M)) rfl rfl rfl ?_
  refine ps_get (S' := (23, [(0, .ref o), (1, .int k), (2, .int p)], [.ref c], M)) rfl h_o rfl rfl ?_
  refine ps_st (S' := (26, [(0, .ref o), (1, .int k), (2, .int p)], [], M)) rfl rfl rfl ?_
  refine ps_st (S' := (27, [(0, .ref o), (1, .int k), (2, .int p)], [.int k], M)) rfl rfl rfl ?_
  refine ps_if (S1 := (44, [], [], M)) (S2 := (30, [(0, .ref o), (1, .int k), (2, .int p)], [], M)) rfl rfl rfl (fun c_27 => ?_) (fun c_27 => ?_)
  · have c_27 : k < 0 := of_decide_eq_true c_27
    refine ps_st (S' := (45, [], [.int (-1)], M)) rfl rfl rfl ?_
    exact ps_ret rfl rfl (⟨rfl, rfl⟩)
  · have c_27 : ¬ (k < 0) := of_decide_eq_false c_27
    refine ps_st (S' := (31, [(0, .ref o), (1, .int k), (2, .int p)], [.int k], M)) rfl rfl rfl ?_
    refine ps_st (S' := (32, [(0, .ref o), (1, .int k), (2, .int p)], [.ref o, .int k], M)) rfl rfl rfl ?_
    refine ps_get (S' := (35, [(0, .ref o), (1, .int k), (2, .int p)], [.ref c, .int k], M)) rfl h_o rfl rfl ?_
    refine ps_get (S' := (38, [(0, .ref o), (1, .int k), (2, .int p)], [.ref q, .int k], M)) rfl h_c rfl rfl ?_
    refine ps_get (S' := (41, [(0, .ref o), (1, .int k), (2, .int p)], [.int (nI N), .int k], M)) rfl h_q rfl rfl ?_
    refine ps_if2 (S1 := (46, [(0, .ref o), (1, .int k), (2, .int p)], [], M)) (S2 := (44, [], [], M)) rfl rfl rfl (fun c_41 => ?_) (fun c_41 => ?_)
    · exact absurd (of_decide_eq_true c_41) (Int32.not_lt.mpr (hk.resolve_left c_27))
    refine ps_st (S' := (45, [], [.int (-1)], M)) rfl rfl rfl ?_
    exact ps_ret rfl rfl (⟨rfl, rfl⟩)
set_option maxHeartbeats 1000000 in
theorem dk_entry_0 {g : xe_G} {M : mi_H} {f : Nat → Int32} {n N q : Nat} {E : List (Nat × Nat)} {o ca fl c b : Nat} {cn wp : Int32} {w : List Value} {j : Nat} (h_o : M.1 o = some (ob 11 [.ref ca, .int cn, .ref fl, .ref c, .int wp])) (h_c : M.1 c = some (ob 3 (.ref b :: .ref q :: w))) (hV : PV g f n N E q M) (hj : j < N) : pt (mT g) 8 [.ref o, .int (nI j), .int 0] M (fun v M' => (v = some (.int (nI (tg f E j))) ∧ M = M')) := by
  refine pt_in (b := mb_8 g) rfl (fun kf => ?_)
  show pl (mT g) kf (mb_8 g).2 (0, [(0, .ref o), (1, .int (nI j)), (2, .int 0)], [], M) _
  obtain ⟨hL9, H, m, qq, F, cc, hP9, -, -, hb9, -⟩ := id hV
  have h_q := hP9.1
  have hN9 := hb9.2.2.1
  refine ps_st (S' := (1, [(0, .ref o), (1, .int (nI j)), (2, .int 0)], [.int 0], M)) rfl rfl rfl ?_
  refine ps_if (S1 := (9, [(0, .ref o), (1, .int (nI j)), (2, .int 0)], [], M)) (S2 := (4, [(0, .ref o), (1, .int (nI j)), (2, .int 0)], [], M)) rfl rfl rfl (fun c_1 => ?_) (fun c_1 => ?_)
  · exact absurd (of_decide_eq_true c_1) (by decide)
  refine ps_st (S' := (5, [(0, .ref o), (1, .int (nI j)), (2, .int 0)], [.int 0], M)) rfl rfl rfl ?_
  refine ps_st (S' := (6, [(0, .ref o), (1, .int (nI j)), (2, .int 0)], [.int 2, .int 0], M)) rfl rfl rfl ?_
  refine ps_if2 (S1 := (19, [(0, .ref o), (1, .int (nI j)), (2, .int 0)], [], M)) (S2 := (9, [(0, .ref o), (1, .int (nI j)), (2, .int 0)], [], M)) rfl rfl rfl (fun c_6 => ?_) (fun c_6 => ?_)
  rotate_left
  · exact absurd (by decide) (of_decide_eq_false c_6)
  refine ps_st (S' := (20, [(0, .ref o), (1, .int (nI j)), (2, .int 0)], [.ref o], M)) rfl rfl rfl ?_
  refine ps_get (S' := (23, [(0, .ref o), (1, .int (nI j)), (2, .int 0)], [.ref c], M)) rfl h_o rfl rfl ?_
  refine ps_st (S' := (26, [(0, .ref o), (1, .int (nI j)), (2, .int 0)], [], M)) rfl rfl rfl ?_
  refine ps_st (S' := (27, [(0, .ref o), (1, .int (nI j)), (2, .int 0)], [.int (nI j)], M)) rfl rfl rfl ?_
  refine ps_if (S1 := (44, [], [], M)) (S2 := (30, [(0, .ref o), (1, .int (nI j)), (2, .int 0)], [], M)) rfl rfl rfl (fun c_27 => ?_) (fun c_27 => ?_)
  · exact absurd (of_decide_eq_true c_27) (show ¬ ((nI j) < 0) from fun h9 => absurd ((lt_nI (p := j) (n := 0) (by omega) (by decide)).mp h9) (by omega))
  refine ps_st (S' := (31, [(0, .ref o), (1, .int (nI j)), (2, .int 0)], [.int (nI j)], M)) rfl rfl rfl ?_
  refine ps_st (S' := (32, [(0, .ref o), (1, .int (nI j)), (2, .int 0)], [.ref o, .int (nI j)], M)) rfl rfl rfl ?_
  refine ps_get (S' := (35, [(0, .ref o), (1, .int (nI j)), (2, .int 0)], [.ref c, .int (nI j)], M)) rfl h_o rfl rfl ?_
  refine ps_get (S' := (38, [(0, .ref o), (1, .int (nI j)), (2, .int 0)], [.ref q, .int (nI j)], M)) rfl h_c rfl rfl ?_
  refine ps_get (S' := (41, [(0, .ref o), (1, .int (nI j)), (2, .int 0)], [.int (nI N), .int (nI j)], M)) rfl h_q rfl rfl ?_
  refine ps_if2 (S1 := (46, [(0, .ref o), (1, .int (nI j)), (2, .int 0)], [], M)) (S2 := (44, [], [], M)) rfl rfl rfl (fun c_41 => ?_) (fun c_41 => ?_)
  rotate_left
  · exact absurd ((lt_nI (by omega) (by omega)).mpr hj) (of_decide_eq_false c_41)
  refine ps_st (S' := (47, [(0, .ref o), (1, .int (nI j)), (2, .int 0)], [.int 0], M)) rfl rfl rfl ?_
  refine ps_if (S1 := (62, [(0, .ref o), (1, .int (nI j)), (2, .int 0)], [], M)) (S2 := (50, [(0, .ref o), (1, .int (nI j)), (2, .int 0)], [], M)) rfl rfl rfl (fun c_47 => ?_) (fun c_47 => ?_)
  · exact absurd (of_decide_eq_true c_47) (by decide)
  refine ps_st (S' := (51, [(0, .ref o), (1, .int (nI j)), (2, .int 0)], [.ref o], M)) rfl rfl rfl ?_
  refine ps_get (S' := (54, [(0, .ref o), (1, .int (nI j)), (2, .int 0)], [.ref c], M)) rfl h_o rfl rfl ?_
  refine ps_get (S' := (57, [(0, .ref o), (1, .int (nI j)), (2, .int 0)], [.ref q], M)) rfl h_c rfl rfl ?_
  refine ps_st (S' := (58, [(0, .ref o), (1, .int (nI j)), (2, .int 0)], [.int (nI j), .ref q], M)) rfl rfl rfl ?_
  refine pl_call (a := [.ref q, .int (nI j)]) (rest := []) rfl rfl rfl (dy_tagOf (f := f) (n := n) (N := N) (q := q) (E := E) (j := j) (hV) (by omega)) (fun v1 M2 q3 => ?_)
  obtain ⟨rfl, rfl⟩ := q3
  show pl _ _ _ (61, [(0, .ref o), (1, .int (nI j)), (2, .int 0)], [.int (nI (tg f E j))], M) _
  exact ps_reti rfl (⟨rfl, rfl⟩)
set_option maxHeartbeats 1000000 in
theorem dk_entry_1 {g : xe_G} {M : mi_H} {f : Nat → Int32} {n N q : Nat} {E : List (Nat × Nat)} {o ca fl c b : Nat} {cn wp : Int32} {w : List Value} {j : Nat} (h_o : M.1 o = some (ob 11 [.ref ca, .int cn, .ref fl, .ref c, .int wp])) (h_c : M.1 c = some (ob 3 (.ref b :: .ref q :: w))) (hV : PV g f n N E q M) (hj : j < N) : pt (mT g) 8 [.ref o, .int (nI j), .int 1] M (fun v M' => (v = some (.int (nI (fi f E j))) ∧ M = M')) := by
  refine pt_in (b := mb_8 g) rfl (fun kf => ?_)
  show pl (mT g) kf (mb_8 g).2 (0, [(0, .ref o), (1, .int (nI j)), (2, .int 1)], [], M) _
  obtain ⟨hL9, H, m, qq, F, cc, hP9, -, -, hb9, -⟩ := id hV
  have h_q := hP9.1
  have hN9 := hb9.2.2.1
  refine ps_st (S' := (1, [(0, .ref o), (1, .int (nI j)), (2, .int 1)], [.int 1], M)) rfl rfl rfl ?_
  refine ps_if (S1 := (9, [(0, .ref o), (1, .int (nI j)), (2, .int 1)], [], M)) (S2 := (4, [(0, .ref o), (1, .int (nI j)), (2, .int 1)], [], M)) rfl rfl rfl (fun c_1 => ?_) (fun c_1 => ?_)
  · exact absurd (of_decide_eq_true c_1) (by decide)
  refine ps_st (S' := (5, [(0, .ref o), (1, .int (nI j)), (2, .int 1)], [.int 1], M)) rfl rfl rfl ?_
  refine ps_st (S' := (6, [(0, .ref o), (1, .int (nI j)), (2, .int 1)], [.int 2, .int 1], M)) rfl rfl rfl ?_
  refine ps_if2 (S1 := (19, [(0, .ref o), (1, .int (nI j)), (2, .int 1)], [], M)) (S2 := (9, [(0, .ref o), (1, .int (nI j)), (2, .int 1)], [], M)) rfl rfl rfl (fun c_6 => ?_) (fun c_6 => ?_)
  rotate_left
  · exact absurd (by decide) (of_decide_eq_false c_6)
  refine ps_st (S' := (20, [(0, .ref o), (1, .int (nI j)), (2, .int 1)], [.ref o], M)) rfl rfl rfl ?_
  refine ps_get (S' := (23, [(0, .ref o), (1, .int (nI j)), (2, .int 1)], [.ref c], M)) rfl h_o rfl rfl ?_
  refine ps_st (S' := (26, [(0, .ref o), (1, .int (nI j)), (2, .int 1)], [], M)) rfl rfl rfl ?_
  refine ps_st (S' := (27, [(0, .ref o), (1, .int (nI j)), (2, .int 1)], [.int (nI j)], M)) rfl rfl rfl ?_
  refine ps_if (S1 := (44, [], [], M)) (S2 := (30, [(0, .ref o), (1, .int (nI j)), (2, .int 1)], [], M)) rfl rfl rfl (fun c_27 => ?_) (fun c_27 => ?_)
  · exact absurd (of_decide_eq_true c_27) (show ¬ ((nI j) < 0) from fun h9 => absurd ((lt_nI (p := j) (n := 0) (by omega) (by decide)).mp h9) (by omega))
  refine ps_st (S' := (31, [(0, .ref o), (1, .int (nI j)), (2, .int 1)], [.int (nI j)], M)) rfl rfl rfl ?_
  refine ps_st (S' := (32, [(0, .ref o), (1, .int (nI j)), (2, .int 1)], [.ref o, .int (nI j)], M)) rfl rfl rfl ?_
  refine ps_get (S' := (35, [(0, .ref o), (1, .int (nI j)), (2, .int 1)], [.ref c, .int (nI j)], M)) rfl h_o rfl rfl ?_
  refine ps_get (S' := (38, [(0, .ref o), (1, .int (nI j)), (2, .int 1)], [.ref q, .int (nI j)], M)) rfl h_c rfl rfl ?_
  refine ps_get (S' := (41, [(0, .ref o), (1, .int (nI j)), (2, .int 1)], [.int (nI N), .int (nI j)], M)) rfl h_q rfl rfl ?_
  refine ps_if2 (S1 := (46, [(0, .ref o), (1, .int (nI j)), (2, .int 1)], [], M)) (S2 := (44, [], [], M)) rfl rfl rfl (fun c_41 => ?_) (fun c_41 => ?_)
  rotate_left
  · exact absurd ((lt_nI (by omega) (by omega)).mpr hj) (of_decide_eq_false c_41)
  refine ps_st (S' := (47, [(0, .ref o), (1, .int (nI j)), (2, .int 1)], [.int 1], M)) rfl rfl rfl ?_
  refine ps_if (S1 := (62, [(0, .ref o), (1, .int (nI j)), (2, .int 1)], [], M)) (S2 := (50, [(0, .ref o), (1, .int (nI j)), (2, .int 1)], [], M)) rfl rfl rfl (fun c_47 => ?_) (fun c_47 => ?_)
  rotate_left
  · exact absurd (by decide) (of_decide_eq_false c_47)
  refine ps_st (S' := (63, [(0, .ref o), (1, .int (nI j)), (2, .int 1)], [.int 1], M)) rfl rfl rfl ?_
  refine ps_st (S' := (64, [(0, .ref o), (1, .int (nI j)), (2, .int 1)], [.int 1, .int 1], M)) rfl rfl rfl ?_
  refine ps_if2 (S1 := (81, [(0, .ref o), (1, .int (nI j)), (2, .int 1)], [], M)) (S2 := (67, [(0, .ref o), (1, .int (nI j)), (2, .int 1)], [], M)) rfl rfl rfl (fun c_64 => ?_) (fun c_64 => ?_)
  · exact absurd (of_decide_eq_true c_64) (by decide)
  refine ps_st (S' := (68, [(0, .ref o), (1, .int (nI j)), (2, .int 1)], [.ref o], M)) rfl rfl rfl ?_
  refine ps_get (S' := (71, [(0, .ref o), (1, .int (nI j)), (2, .int 1)], [.ref c], M)) rfl h_o rfl rfl ?_
  refine ps_get (S' := (74, [(0, .ref o), (1, .int (nI j)), (2, .int 1)], [.ref q], M)) rfl h_c rfl rfl ?_
  refine ps_st (S' := (75, [(0, .ref o), (1, .int (nI j)), (2, .int 1)], [.int (nI j), .ref q], M)) rfl rfl rfl ?_
  refine pl_call (a := [.ref q, .int (nI j)]) (rest := []) rfl rfl rfl (dy_firstIndex (f := f) (n := n) (N := N) (q := q) (E := E) (j := j) (hV) (by omega)) (fun v1 M2 q3 => ?_)
  obtain ⟨rfl, rfl⟩ := q3
  show pl _ _ _ (78, [(0, .ref o), (1, .int (nI j)), (2, .int 1)], [.int (nI (fi f E j))], M) _
  refine ps_st (S' := (92, [], [.int (nI (fi f E j))], M)) rfl rfl rfl ?_
  exact ps_reti rfl (⟨rfl, rfl⟩)
set_option maxHeartbeats 1000000 in
theorem dk_entry_2 {g : xe_G} {M : mi_H} {f : Nat → Int32} {n N q : Nat} {E : List (Nat × Nat)} {o ca fl c b : Nat} {cn wp : Int32} {w : List Value} {j : Nat} (h_o : M.1 o = some (ob 11 [.ref ca, .int cn, .ref fl, .ref c, .int wp])) (h_c : M.1 c = some (ob 3 (.ref b :: .ref q :: w))) (hV : PV g f n N E q M) (hj : j < N) : pt (mT g) 8 [.ref o, .int (nI j), .int 2] M (fun v M' => (v = some (.int (nI (se f E j))) ∧ M = M')) := by
  refine pt_in (b := mb_8 g) rfl (fun kf => ?_)
  show pl (mT g) kf (mb_8 g).2 (0, [(0, .ref o), (1, .int (nI j)), (2, .int 2)], [], M) _
  obtain ⟨hL9, H, m, qq, F, cc, hP9, -, -, hb9, -⟩ := id hV
  have h_q := hP9.1
  have hN9 := hb9.2.2.1
  refine ps_st (S' := (1, [(0, .ref o), (1, .int (nI j)), (2, .int 2)], [.int 2], M)) rfl rfl rfl ?_
  refine ps_if (S1 := (9, [(0, .ref o), (1, .int (nI j)), (2, .int 2)], [], M)) (S2 := (4, [(0, .ref o), (1, .int (nI j)), (2, .int 2)], [], M)) rfl rfl rfl (fun c_1 => ?_) (fun c_1 => ?_)
  · exact absurd (of_decide_eq_true c_1) (by decide)
  refine ps_st (S' := (5, [(0, .ref o), (1, .int (nI j)), (2, .int 2)], [.int 2], M)) rfl rfl rfl ?_
  refine ps_st (S' := (6, [(0, .ref o), (1, .int (nI j)), (2, .int 2)], [.int 2, .int 2], M)) rfl rfl rfl ?_
  refine ps_if2 (S1 := (19, [(0, .ref o), (1, .int (nI j)), (2, .int 2)], [], M)) (S2 := (9, [(0, .ref o), (1, .int (nI j)), (2, .int 2)], [], M)) rfl rfl rfl (fun c_6 => ?_) (fun c_6 => ?_)
  rotate_left
  · exact absurd (by decide) (of_decide_eq_false c_6)
  refine ps_st (S' := (20, [(0, .ref o), (1, .int (nI j)), (2, .int 2)], [.ref o], M)) rfl rfl rfl ?_
  refine ps_get (S' := (23, [(0, .ref o), (1, .int (nI j)), (2, .int 2)], [.ref c], M)) rfl h_o rfl rfl ?_
  refine ps_st (S' := (26, [(0, .ref o), (1, .int (nI j)), (2, .int 2)], [], M)) rfl rfl rfl ?_
  refine ps_st (S' := (27, [(0, .ref o), (1, .int (nI j)), (2, .int 2)], [.int (nI j)], M)) rfl rfl rfl ?_
  refine ps_if (S1 := (44, [], [], M)) (S2 := (30, [(0, .ref o), (1, .int (nI j)), (2, .int 2)], [], M)) rfl rfl rfl (fun c_27 => ?_) (fun c_27 => ?_)
  · exact absurd (of_decide_eq_true c_27) (show ¬ ((nI j) < 0) from fun h9 => absurd ((lt_nI (p := j) (n := 0) (by omega) (by decide)).mp h9) (by omega))
  refine ps_st (S' := (31, [(0, .ref o), (1, .int (nI j)), (2, .int 2)], [.int (nI j)], M)) rfl rfl rfl ?_
  refine ps_st (S' := (32, [(0, .ref o), (1, .int (nI j)), (2, .int 2)], [.ref o, .int (nI j)], M)) rfl rfl rfl ?_
  refine ps_get (S' := (35, [(0, .ref o), (1, .int (nI j)), (2, .int 2)], [.ref c, .int (nI j)], M)) rfl h_o rfl rfl ?_
  refine ps_get (S' := (38, [(0, .ref o), (1, .int (nI j)), (2, .int 2)], [.ref q, .int (nI j)], M)) rfl h_c rfl rfl ?_
  refine ps_get (S' := (41, [(0, .ref o), (1, .int (nI j)), (2, .int 2)], [.int (nI N), .int (nI j)], M)) rfl h_q rfl rfl ?_
  refine ps_if2 (S1 := (46, [(0, .ref o), (1, .int (nI j)), (2, .int 2)], [], M)) (S2 := (44, [], [], M)) rfl rfl rfl (fun c_41 => ?_) (fun c_41 => ?_)
  rotate_left
  · exact absurd ((lt_nI (by omega) (by omega)).mpr hj) (of_decide_eq_false c_41)
  refine ps_st (S' := (47, [(0, .ref o), (1, .int (nI j)), (2, .int 2)], [.int 2], M)) rfl rfl rfl ?_
  refine ps_if (S1 := (62, [(0, .ref o), (1, .int (nI j)), (2, .int 2)], [], M)) (S2 := (50, [(0, .ref o), (1, .int (nI j)), (2, .int 2)], [], M)) rfl rfl rfl (fun c_47 => ?_) (fun c_47 => ?_)
  rotate_left
  · exact absurd (by decide) (of_decide_eq_false c_47)
  refine ps_st (S' := (63, [(0, .ref o), (1, .int (nI j)), (2, .int 2)], [.int 2], M)) rfl rfl rfl ?_
  refine ps_st (S' := (64, [(0, .ref o), (1, .int (nI j)), (2, .int 2)], [.int 1, .int 2], M)) rfl rfl rfl ?_
  refine ps_if2 (S1 := (81, [(0, .ref o), (1, .int (nI j)), (2, .int 2)], [], M)) (S2 := (67, [(0, .ref o), (1, .int (nI j)), (2, .int 2)], [], M)) rfl rfl rfl (fun c_64 => ?_) (fun c_64 => ?_)
  rotate_left
  · exact absurd (by decide) (of_decide_eq_false c_64)
  refine ps_st (S' := (82, [(0, .ref o), (1, .int (nI j)), (2, .int 2)], [.ref o], M)) rfl rfl rfl ?_
  refine ps_get (S' := (85, [(0, .ref o), (1, .int (nI j)), (2, .int 2)], [.ref c], M)) rfl h_o rfl rfl ?_
  refine ps_get (S' := (88, [(0, .ref o), (1, .int (nI j)), (2, .int 2)], [.ref q], M)) rfl h_c rfl rfl ?_
  refine ps_st (S' := (89, [(0, .ref o), (1, .int (nI j)), (2, .int 2)], [.int (nI j), .ref q], M)) rfl rfl rfl ?_
  refine pl_call (a := [.ref q, .int (nI j)]) (rest := []) rfl rfl rfl (dy_secondIndex (f := f) (n := n) (N := N) (q := q) (E := E) (j := j) (hV) (by omega)) (fun v1 M2 q3 => ?_)
  obtain ⟨rfl, rfl⟩ := q3
  show pl _ _ _ (92, [], [.int (nI (se f E j))], M) _
  exact ps_reti rfl (⟨rfl, rfl⟩)
theorem dk_entry {g : xe_G} {M : mi_H} {ko : Option (Nat × (Nat → Int32))} {kv : Value} {cm o fl : Nat} {cn wp k p : Int32} (hx : M.1 o = some (ob 11 [.ref cm, .int cn, .ref fl, kv, .int wp])) (hK : KPC g ko kv cm M) (hp0 : ¬ p < 0) (hp1 : p ≤ 2) : pt (mT g) 8 [.ref o, .int k, .int p] M (fun v M' => v = some (.int (enK ko k p)) ∧ M = M') := by
  cases ko with
  | none =>
    have e : kv = .null := hK
    subst e
    exact dk_entry0 hx hp0 hp1
  | some r =>
    obtain ⟨c, da, rfl, ⟨b, q, N, E, p1, pF, pM, pA, w, h1, h2, h3, h4, h5, rfl, -⟩, -, -⟩ := hK
    rw [enK_is h5]
    have hN := by2_lt r.2 8
    unfold enI
    by_cases hk : k < 0 ∨ nI (by2 r.2 8) ≤ k
    · rw [if_pos hk]
      exact dk_entryN hx h1 hp0 hp1 h4 hk
    · rw [if_neg hk]
      obtain ⟨e, hj⟩ := i32_in hN hk
      obtain ⟨j, ej⟩ : ∃ j, j = k.toNatClampNeg := ⟨_, rfl⟩
      rw [← ej] at e hj ⊢
      subst e
      rcases i32_3 hp0 hp1 with rfl | rfl | rfl
      · exact dk_entry_0 hx h1 h4 hj
      · exact dk_entry_1 hx h1 h4 hj
      · exact dk_entry_2 hx h1 h4 hj
