/-! the counts, as both sides tell them (my own text) -/
section CNA
variable {f : Nat → Int32} {n N : Nat} {E : List (Nat × Nat)}
def cnV (f : Nat → Int32) (n : Nat) (E : List (Nat × Nat)) (p1 pF pM bc : Nat) (K : KT) (w : Nat) : Int32 :=
  if w = 0 then nI (by2 f 8) else if w = 1 then nI (mbs f n (by2 f pF) (pF + 2)).length else if w = 2 then nI (mbs f n (by2 f pM) (pM + 2)).length else if w = 3 then nI (by2 f (p1 + 6)) else if w = 4 then nI bc else if w = 5 then nI K.1 else if w = 6 then nI (by2 f p1) else if w = 7 then nI (by2 f 6) else if w = 8 then nI (by2 f 4) else if w = 9 then nI (by2 f (p1 + 2)) else if w = 10 then nI (by2 f (p1 + 4)) else if w = 11 then nI (chL f n E) else if w = 12 then nI K.2.2.1 else if w = 13 then nI K.2.2.2.1 else if w = 14 then nI K.2.2.2.2.1 else K.2.2.2.2.2
/-- what is kept tells it -/
def cnK (ko : Option (Nat × (Nat → Int32))) (w : Int32) : Int32 := match ko with
  | none => -1
  | some r => match s_whole r.2 r.1 with
    | .inl _ => -1
    | .inr y => match clS r.2 r.1 y.1 (by2 r.2 y.2.1) (by2 r.2 6) (by2 r.2 y.2.2.2.2) (y.2.2.2.2 + 2) 0 0 with
      | .inl _ => -1
      | .inr bc => cnV r.2 r.1 y.1 y.2.1 y.2.2.1 y.2.2.2.1 bc (clU r.2 r.1 y.1 (by2 r.2 6) (by2 r.2 y.2.2.2.2) (y.2.2.2.2 + 2) (0, 0, 0, 0, 0, -1)) w.toNatClampNeg
theorem cnK_is {r : Nat × (Nat → Int32)} {w : Int32} {p1 pF pM pA bc : Nat} {K : KT} (h : s_whole r.2 r.1 = .inr (E, p1, pF, pM, pA)) (hB : clS r.2 r.1 E (by2 r.2 p1) (by2 r.2 6) (by2 r.2 pA) (pA + 2) 0 0 = .inr bc) (hU : clU r.2 r.1 E (by2 r.2 6) (by2 r.2 pA) (pA + 2) (0, 0, 0, 0, 0, -1) = K) : cnK (some r) w = cnV r.2 r.1 E p1 pF pM bc K w.toNatClampNeg := by
  show (match s_whole r.2 r.1 with | .inl _ => (-1 : Int32) | .inr y => match clS r.2 r.1 y.1 (by2 r.2 y.2.1) (by2 r.2 6) (by2 r.2 y.2.2.2.2) (y.2.2.2.2 + 2) 0 0 with | .inl _ => (-1 : Int32) | .inr bc => cnV r.2 r.1 y.1 y.2.1 y.2.2.1 y.2.2.2.1 bc (clU r.2 r.1 y.1 (by2 r.2 6) (by2 r.2 y.2.2.2.2) (y.2.2.2.2 + 2) (0, 0, 0, 0, 0, -1)) w.toNatClampNeg) = _
  rw [h]
  dsimp only
  rw [hB]
  dsimp only
  rw [hU]
theorem i32_16 {w : Int32} (h0 : ¬ w < 0) (h1 : w ≤ 15) : w = nI w.toNatClampNeg ∧ w.toNatClampNeg < 16 := by
  have a := Int32.le_iff_toInt_le.mp h1
  have e : (15 : Int32).toInt = 15 := rfl
  have b := i32_to h0
  exact ⟨i32_nn h0, by omega⟩
/-- the same number, entry by entry -/
def chX (f : Nat → Int32) (n : Nat) (E : List (Nat × Nat)) : Nat → Nat
  | 0 => 0
  | k + 1 => chX f n E k + (tX f n E k).length
theorem chX_ext {E' : List (Nat × Nat)} : ∀ {m : Nat}, (∀ j, j < m → lk E' j = lk E j) → chX f n E' m = chX f n E m := by
  intro m
  induction m with
  | zero => intro _; rfl
  | succ m ih =>
    intro h
    show chX f n E' m + (tX f n E' m).length = chX f n E m + (tX f n E m).length
    rw [ih (fun j hj => h j (by omega))]
    unfold tX
    rw [h m (by omega)]
theorem lk_app {k p : Nat} : ∀ {E : List (Nat × Nat)} {j : Nat}, lk (E ++ [(k, p)]) j = match lk E j with
    | some x => some x
    | none => if k = j then some p else none := by
  intro E
  induction E with
  | nil => intro j; rfl
  | cons q r ih =>
    intro j
    show (if q.1 = j then some q.2 else lk (r ++ [(k, p)]) j) = match (if q.1 = j then some q.2 else lk r j) with
      | some x => some x
      | none => if k = j then some p else none
    by_cases h : q.1 = j
    · rw [if_pos h, if_pos h]
    · rw [if_neg h, if_neg h, ih]
theorem tx_ch9 {p k : Nat} (h : lk E k = some p) : (tX f n E k).length = chE f n p := by
  unfold tX chE
  rw [h]
  dsimp only
  by_cases h1 : by1 f p = 1
  · rw [if_pos h1, if_pos h1]
    cases s_utf f n (p + 1) with
    | inl e => rfl
    | inr l => rfl
  · rw [if_neg h1, if_neg h1]
    rfl
theorem chX_pool {mj : Nat} : ∀ {r k p p' : Nat} {E0 E : List (Nat × Nat)}, N - k ≤ r → k ≤ N → (∀ q ∈ E0, q.1 < k) → chX f n E0 k = chL f n E0 → s_ents f n mj N r k p E0 = .inr (p', E) → chX f n E N = chL f n E := by
  intro r
  induction r with
  | zero =>
    intro k p p' E0 E hr hk h0 hc h
    cases h
    rw [show N = k by omega]
    exact hc
  | succ r ih =>
    intro k p p' E0 E hr hk h0 hc h
    unfold s_ents at h
    split at h
    · cases h
      rw [show N = k by omega]
      exact hc
    · cases he : s_entry f n mj N k p with
      | inl e => rw [he] at h; cases h
      | inr y =>
        obtain ⟨p2, x⟩ := y
        rw [he] at h
        have hno : lk E0 k = none := by
          cases hl : lk E0 k with
          | none => rfl
          | some x =>
            have := h0 _ (lk_in hl)
            omega
        have hlk : lk (E0 ++ [(k, p)]) k = some p := by
          rw [lk_app, hno]
          dsimp only
          rw [if_pos rfl]
        have h1 : chX f n (E0 ++ [(k, p)]) (k + 1) = chL f n (E0 ++ [(k, p)]) := by
          show chX f n (E0 ++ [(k, p)]) k + (tX f n (E0 ++ [(k, p)]) k).length = _
          rw [chX_ext (E := E0) (fun j hj => by
            rw [lk_app]
            cases lk E0 j with
            | none =>
              dsimp only
              rw [if_neg (by omega)]
            | some x => rfl), hc, tx_ch9 hlk, chL_app]
          rfl
        have hq : ∀ m, k + 1 ≤ m → ∀ q ∈ E0 ++ [(k, p)], q.1 < m := fun m hm q hq => by
          rcases List.mem_append.mp hq with hq | hq
          · have := h0 q hq
            omega
          · have e : q = (k, p) := by simpa using hq
            rw [e]
            exact hm
        by_cases hw : by1 f p = 5 ∨ by1 f p = 6
        · rw [if_pos hw] at h
          have hk2 : ¬ N ≤ k + 1 := by
            unfold s_entry at he
            split at he
            · cases he
            · split at he
              · cases he
              · split at he
                · cases he
                · rename_i h9
                  exact fun q => h9 ⟨hw, q⟩
          refine ih (by omega) (by omega) (hq _ (by omega)) ?_ h
          show chX f n (E0 ++ [(k, p)]) (k + 1) + (tX f n (E0 ++ [(k, p)]) (k + 1)).length = _
          have hn2 : lk (E0 ++ [(k, p)]) (k + 1) = none := by
            cases hl : lk (E0 ++ [(k, p)]) (k + 1) with
            | none => rfl
            | some x =>
              have := hq (k + 1) (Nat.le_refl _) _ (lk_in hl)
              omega
          rw [h1, show (tX f n (E0 ++ [(k, p)]) (k + 1)).length = 0 by unfold tX; rw [hn2]; rfl]
          rfl
        · rw [if_neg hw] at h
          exact ih (by omega) (by omega) (hq _ (Nat.le_refl _)) h1 h
theorem chX_all {mj p' : Nat} (h : s_pool f n mj = .inr (p', E)) : chX f n E (by2 f 8) = chL f n E := by
  unfold s_pool at h
  split at h
  · cases h
  · split at h
    · cases h
    · refine chX_pool (k := 1) (E0 := []) (by omega) (by omega) (fun q hq => by cases hq) ?_ h
      rfl
theorem utf_len {p : Nat} {l : List Nat} (h : s_utf f n p = .inr l) : l.length ≤ by2 f p := by
  unfold s_utf at h
  split at h
  · cases h
  · split at h
    · cases h
    · cases ht : s_text f (p + 2 + by2 f p) (by2 f p) (p + 2) [] with
      | inl w => rw [ht] at h; cases h
      | inr l' =>
        rw [ht] at h
        cases h
        have := s_text_len ht
        simpa using this
theorem chE_le {p mj k p' : Nat} {x : (List Nat) ⊕ (Option (Nat × Nat))} (h : s_entry f n mj N k p = .inr (p', x)) : chE f n p + p ≤ p' := by
  have h1 := s_entry_le h
  unfold chE
  by_cases h2 : by1 f p = 1
  · rw [if_pos h2]
    unfold s_entry at h
    split at h
    · cases h
    · split at h
      · cases h
      · split at h
        · cases h
        · try rw [if_pos h2] at h
          cases hu : s_utf f n (p + 1) with
          | inl e => rw [hu] at h; cases h
          | inr l =>
            rw [hu] at h
            have h3 := utf_len hu
            cases h
            dsimp only
            omega
  · rw [if_neg h2]
    omega
theorem chL_le {mj : Nat} : ∀ {r k p p' : Nat} {E0 E : List (Nat × Nat)}, chL f n E0 ≤ p → s_ents f n mj N r k p E0 = .inr (p', E) → chL f n E ≤ p' := by
  intro r
  induction r with
  | zero => intro k p p' E0 E h0 h; cases h; exact h0
  | succ r ih =>
    intro k p p' E0 E h0 h
    unfold s_ents at h
    split at h
    · cases h; exact h0
    · cases he : s_entry f n mj N k p with
      | inl e => rw [he] at h; cases h
      | inr y =>
        obtain ⟨p2, x⟩ := y
        rw [he] at h
        refine ih ?_ h
        rw [chL_app]
        have h1 := chE_le he
        unfold chE at h1
        omega
theorem chL_pool {mj p' : Nat} (h : s_pool f n mj = .inr (p', E)) : chL f n E ≤ p' := by
  unfold s_pool at h
  split at h
  · cases h
  · split at h
    · cases h
    · exact chL_le (Nat.zero_le _) h
theorem chX_mono : ∀ {m k : Nat}, k ≤ m → chX f n E k ≤ chX f n E m := by
  intro m
  induction m with
  | zero => intro k hk; rw [show k = 0 by omega]; exact Nat.le_refl _
  | succ m ih =>
    intro k hk
    by_cases h : k = m + 1
    · rw [h]
      exact Nat.le_refl _
    · have := ih (k := k) (by omega)
      show chX f n E k ≤ chX f n E m + _
      omega
end CNA
set_option maxHeartbeats 1000000 in
theorem dk_anum4 {g : xe_G} {M : mi_H} {f : Nat → Int32} {n N q c b da fr mr p1 l1 l2 q1 q2 q3 q4 q5 q6 : Nat} {R1 R2 : Nat → Value} {cc u2 u3 u5 x8 x9 x10 x11 x12 x13 x14 x15 x16 : Int32} (h_c : M.1 c = some (ob 3 [.ref b, .ref q, .int u2, .int u3, .int (nI p1), .int u5, .ref fr, .ref mr, .int x8, .int x9, .int x10, .int x11, .int x12, .int x13, .int x14, .int x15, .int x16]))  : pt (mT g) 69 [.ref c, .int 4] M (fun v M' => (v = some (.int x11) ∧ M = M')) := by
  refine pt_in (b := mb_69 g) rfl (fun kf => ?_)
  show pl (mT g) kf (mb_69 g).2 (0, [(0, .ref c), (1, .int 4)], [], M) _
  refine ps_st (S' := (1, [(0, .ref c), (1, .int 4)], [.int 4], M)) rfl rfl rfl ?_
  refine ps_st (S' := (60, [(0, .ref c), (1, .int 4)], [], M)) rfl rfl rfl ?_
  refine ps_st (S' := (61, [(0, .ref c), (1, .int 4)], [.ref c], M)) rfl rfl rfl ?_
  refine ps_get (S' := (64, [(0, .ref c), (1, .int 4)], [.int x11], M)) rfl h_c rfl rfl ?_
  exact ps_reti rfl (⟨rfl, rfl⟩)
set_option maxHeartbeats 1000000 in
theorem dk_anum5 {g : xe_G} {M : mi_H} {f : Nat → Int32} {n N q c b da fr mr p1 l1 l2 q1 q2 q3 q4 q5 q6 : Nat} {R1 R2 : Nat → Value} {cc u2 u3 u5 x8 x9 x10 x11 x12 x13 x14 x15 x16 : Int32} (h_c : M.1 c = some (ob 3 [.ref b, .ref q, .int u2, .int u3, .int (nI p1), .int u5, .ref fr, .ref mr, .int x8, .int x9, .int x10, .int x11, .int x12, .int x13, .int x14, .int x15, .int x16]))  : pt (mT g) 69 [.ref c, .int 5] M (fun v M' => (v = some (.int x10) ∧ M = M')) := by
  refine pt_in (b := mb_69 g) rfl (fun kf => ?_)
  show pl (mT g) kf (mb_69 g).2 (0, [(0, .ref c), (1, .int 5)], [], M) _
  refine ps_st (S' := (1, [(0, .ref c), (1, .int 5)], [.int 5], M)) rfl rfl rfl ?_
  refine ps_st (S' := (65, [(0, .ref c), (1, .int 5)], [], M)) rfl rfl rfl ?_
  refine ps_st (S' := (66, [(0, .ref c), (1, .int 5)], [.ref c], M)) rfl rfl rfl ?_
  refine ps_get (S' := (69, [(0, .ref c), (1, .int 5)], [.int x10], M)) rfl h_c rfl rfl ?_
  exact ps_reti rfl (⟨rfl, rfl⟩)
set_option maxHeartbeats 1000000 in
theorem dk_anum12 {g : xe_G} {M : mi_H} {f : Nat → Int32} {n N q c b da fr mr p1 l1 l2 q1 q2 q3 q4 q5 q6 : Nat} {R1 R2 : Nat → Value} {cc u2 u3 u5 x8 x9 x10 x11 x12 x13 x14 x15 x16 : Int32} (h_c : M.1 c = some (ob 3 [.ref b, .ref q, .int u2, .int u3, .int (nI p1), .int u5, .ref fr, .ref mr, .int x8, .int x9, .int x10, .int x11, .int x12, .int x13, .int x14, .int x15, .int x16]))  : pt (mT g) 69 [.ref c, .int 12] M (fun v M' => (v = some (.int x13) ∧ M = M')) := by
  refine pt_in (b := mb_69 g) rfl (fun kf => ?_)
  show pl (mT g) kf (mb_69 g).2 (0, [(0, .ref c), (1, .int 12)], [], M) _
  refine ps_st (S' := (1, [(0, .ref c), (1, .int 12)], [.int 12], M)) rfl rfl rfl ?_
  refine ps_st (S' := (70, [(0, .ref c), (1, .int 12)], [], M)) rfl rfl rfl ?_
  refine ps_st (S' := (71, [(0, .ref c), (1, .int 12)], [.ref c], M)) rfl rfl rfl ?_
  refine ps_get (S' := (74, [(0, .ref c), (1, .int 12)], [.int x13], M)) rfl h_c rfl rfl ?_
  exact ps_reti rfl (⟨rfl, rfl⟩)
set_option maxHeartbeats 1000000 in
theorem dk_anum13 {g : xe_G} {M : mi_H} {f : Nat → Int32} {n N q c b da fr mr p1 l1 l2 q1 q2 q3 q4 q5 q6 : Nat} {R1 R2 : Nat → Value} {cc u2 u3 u5 x8 x9 x10 x11 x12 x13 x14 x15 x16 : Int32} (h_c : M.1 c = some (ob 3 [.ref b, .ref q, .int u2, .int u3, .int (nI p1), .int u5, .ref fr, .ref mr, .int x8, .int x9, .int x10, .int x11, .int x12, .int x13, .int x14, .int x15, .int x16]))  : pt (mT g) 69 [.ref c, .int 13] M (fun v M' => (v = some (.int x14) ∧ M = M')) := by
  refine pt_in (b := mb_69 g) rfl (fun kf => ?_)
  show pl (mT g) kf (mb_69 g).2 (0, [(0, .ref c), (1, .int 13)], [], M) _
  refine ps_st (S' := (1, [(0, .ref c), (1, .int 13)], [.int 13], M)) rfl rfl rfl ?_
  refine ps_st (S' := (75, [(0, .ref c), (1, .int 13)], [], M)) rfl rfl rfl ?_
  refine ps_st (S' := (76, [(0, .ref c), (1, .int 13)], [.ref c], M)) rfl rfl rfl ?_
  refine ps_get (S' := (79, [(0, .ref c), (1, .int 13)], [.int x14], M)) rfl h_c rfl rfl ?_
  exact ps_reti rfl (⟨rfl, rfl⟩)
set_option maxHeartbeats 1000000 in
theorem dk_anum14 {g : xe_G} {M : mi_H} {f : Nat → Int32} {n N q c b da fr mr p1 l1 l2 q1 q2 q3 q4 q5 q6 : Nat} {R1 R2 : Nat → Value} {cc u2 u3 u5 x8 x9 x10 x11 x12 x13 x14 x15 x16 : Int32} (h_c : M.1 c = some (ob 3 [.ref b, .ref q, .int u2, .int u3, .int (nI p1), .int u5, .ref fr, .ref mr, .int x8, .int x9, .int x10, .int x11, .int x12, .int x13, .int x14, .int x15, .int x16]))  : pt (mT g) 69 [.ref c, .int 14] M (fun v M' => (v = some (.int x15) ∧ M = M')) := by
  refine pt_in (b := mb_69 g) rfl (fun kf => ?_)
  show pl (mT g) kf (mb_69 g).2 (0, [(0, .ref c), (1, .int 14)], [], M) _
  refine ps_st (S' := (1, [(0, .ref c), (1, .int 14)], [.int 14], M)) rfl rfl rfl ?_
  refine ps_st (S' := (80, [(0, .ref c), (1, .int 14)], [], M)) rfl rfl rfl ?_
  refine ps_st (S' := (81, [(0, .ref c), (1, .int 14)], [.ref c], M)) rfl rfl rfl ?_
  refine ps_get (S' := (84, [(0, .ref c), (1, .int 14)], [.int x15], M)) rfl h_c rfl rfl ?_
  exact ps_reti rfl (⟨rfl, rfl⟩)
set_option maxHeartbeats 1000000 in
theorem dk_anum15 {g : xe_G} {M : mi_H} {f : Nat → Int32} {n N q c b da fr mr p1 l1 l2 q1 q2 q3 q4 q5 q6 : Nat} {R1 R2 : Nat → Value} {cc u2 u3 u5 x8 x9 x10 x11 x12 x13 x14 x15 x16 : Int32} (h_c : M.1 c = some (ob 3 [.ref b, .ref q, .int u2, .int u3, .int (nI p1), .int u5, .ref fr, .ref mr, .int x8, .int x9, .int x10, .int x11, .int x12, .int x13, .int x14, .int x15, .int x16]))  : pt (mT g) 69 [.ref c, .int 15] M (fun v M' => (v = some (.int x16) ∧ M = M')) := by
  refine pt_in (b := mb_69 g) rfl (fun kf => ?_)
  show pl (mT g) kf (mb_69 g).2 (0, [(0, .ref c), (1, .int 15)], [], M) _
  refine ps_st (S' := (1, [(0, .ref c), (1, .int 15)], [.int 15], M)) rfl rfl rfl ?_
  refine ps_st (S' := (85, [(0, .ref c), (1, .int 15)], [], M)) rfl rfl rfl ?_
  refine ps_st (S' := (86, [(0, .ref c), (1, .int 15)], [.ref c], M)) rfl rfl rfl ?_
  refine ps_get (S' := (89, [(0, .ref c), (1, .int 15)], [.int x16], M)) rfl h_c rfl rfl ?_
  exact ps_reti rfl (⟨rfl, rfl⟩)
set_option maxHeartbeats 1000000 in
theorem dk_num0 {g : xe_G} {M : mi_H} {f : Nat → Int32} {n N q c b da fr mr p1 l1 l2 q1 q2 q3 q4 q5 q6 : Nat} {R1 R2 : Nat → Value} {cc u2 u3 u5 x8 x9 x10 x11 x12 x13 x14 x15 x16 : Int32} (h_c : M.1 c = some (ob 3 [.ref b, .ref q, .int u2, .int u3, .int (nI p1), .int u5, .ref fr, .ref mr, .int x8, .int x9, .int x10, .int x11, .int x12, .int x13, .int x14, .int x15, .int x16])) (h_b : M.1 b = some (ob 1 [.ref da])) (h_da : M.1 da = some (ar .byte n f)) (h_q : M.1 q = some (ob 7 [.int (nI N), .ref q1, .ref q2, .ref q3, .ref q4, .ref q5, .ref q6, .int cc])) (h_fr : M.1 fr = some (ro "ClassGate$Member" l1 R1)) (h_mr : M.1 mr = some (ro "ClassGate$Member" l2 R2)) (hn : n ≤ 65540) (hp1 : p1 + 8 ≤ n) : pt (mT g) 73 [.ref c, .int 0] M (fun v M' => (v = some (.int (nI N)) ∧ M = M')) := by
  refine pt_in (b := mb_73 g) rfl (fun kf => ?_)
  show pl (mT g) kf (mb_73 g).2 (0, [(0, .ref c), (1, .int 0)], [], M) _
  refine ps_st (S' := (1, [(0, .ref c), (1, .int 0)], [.int 0], M)) rfl rfl rfl ?_
  refine ps_st (S' := (64, [(0, .ref c), (1, .int 0)], [], M)) rfl rfl rfl ?_
  refine ps_st (S' := (65, [(0, .ref c), (1, .int 0)], [.ref c], M)) rfl rfl rfl ?_
  refine ps_get (S' := (68, [(0, .ref c), (1, .int 0)], [.ref q], M)) rfl h_c rfl rfl ?_
  refine ps_get (S' := (71, [(0, .ref c), (1, .int 0)], [.int (nI N)], M)) rfl h_q rfl rfl ?_
  exact ps_reti rfl (⟨rfl, rfl⟩)
set_option maxHeartbeats 1000000 in
theorem dk_num1 {g : xe_G} {M : mi_H} {f : Nat → Int32} {n N q c b da fr mr p1 l1 l2 q1 q2 q3 q4 q5 q6 : Nat} {R1 R2 : Nat → Value} {cc u2 u3 u5 x8 x9 x10 x11 x12 x13 x14 x15 x16 : Int32} (h_c : M.1 c = some (ob 3 [.ref b, .ref q, .int u2, .int u3, .int (nI p1), .int u5, .ref fr, .ref mr, .int x8, .int x9, .int x10, .int x11, .int x12, .int x13, .int x14, .int x15, .int x16])) (h_b : M.1 b = some (ob 1 [.ref da])) (h_da : M.1 da = some (ar .byte n f)) (h_q : M.1 q = some (ob 7 [.int (nI N), .ref q1, .ref q2, .ref q3, .ref q4, .ref q5, .ref q6, .int cc])) (h_fr : M.1 fr = some (ro "ClassGate$Member" l1 R1)) (h_mr : M.1 mr = some (ro "ClassGate$Member" l2 R2)) (hn : n ≤ 65540) (hp1 : p1 + 8 ≤ n) : pt (mT g) 73 [.ref c, .int 1] M (fun v M' => (v = some (.int (nI l1)) ∧ M = M')) := by
  refine pt_in (b := mb_73 g) rfl (fun kf => ?_)
  show pl (mT g) kf (mb_73 g).2 (0, [(0, .ref c), (1, .int 1)], [], M) _
  refine ps_st (S' := (1, [(0, .ref c), (1, .int 1)], [.int 1], M)) rfl rfl rfl ?_
  refine ps_st (S' := (72, [(0, .ref c), (1, .int 1)], [], M)) rfl rfl rfl ?_
  refine ps_st (S' := (73, [(0, .ref c), (1, .int 1)], [.ref c], M)) rfl rfl rfl ?_
  refine ps_get (S' := (76, [(0, .ref c), (1, .int 1)], [.ref fr], M)) rfl h_c rfl rfl ?_
  refine ps_aalen (S' := (77, [(0, .ref c), (1, .int 1)], [.int (nI l1)], M)) rfl h_fr rfl ?_
  exact ps_reti rfl (⟨rfl, rfl⟩)
set_option maxHeartbeats 1000000 in
theorem dk_num2 {g : xe_G} {M : mi_H} {f : Nat → Int32} {n N q c b da fr mr p1 l1 l2 q1 q2 q3 q4 q5 q6 : Nat} {R1 R2 : Nat → Value} {cc u2 u3 u5 x8 x9 x10 x11 x12 x13 x14 x15 x16 : Int32} (h_c : M.1 c = some (ob 3 [.ref b, .ref q, .int u2, .int u3, .int (nI p1), .int u5, .ref fr, .ref mr, .int x8, .int x9, .int x10, .int x11, .int x12, .int x13, .int x14, .int x15, .int x16])) (h_b : M.1 b = some (ob 1 [.ref da])) (h_da : M.1 da = some (ar .byte n f)) (h_q : M.1 q = some (ob 7 [.int (nI N), .ref q1, .ref q2, .ref q3, .ref q4, .ref q5, .ref q6, .int cc])) (h_fr : M.1 fr = some (ro "ClassGate$Member" l1 R1)) (h_mr : M.1 mr = some (ro "ClassGate$Member" l2 R2)) (hn : n ≤ 65540) (hp1 : p1 + 8 ≤ n) : pt (mT g) 73 [.ref c, .int 2] M (fun v M' => (v = some (.int (nI l2)) ∧ M = M')) := by
  refine pt_in (b := mb_73 g) rfl (fun kf => ?_)
  show pl (mT g) kf (mb_73 g).2 (0, [(0, .ref c), (1, .int 2)], [], M) _
  refine ps_st (S' := (1, [(0, .ref c), (1, .int 2)], [.int 2], M)) rfl rfl rfl ?_
  refine ps_st (S' := (78, [(0, .ref c), (1, .int 2)], [], M)) rfl rfl rfl ?_
  refine ps_st (S' := (79, [(0, .ref c), (1, .int 2)], [.ref c], M)) rfl rfl rfl ?_
  refine ps_get (S' := (82, [(0, .ref c), (1, .int 2)], [.ref mr], M)) rfl h_c rfl rfl ?_
  refine ps_aalen (S' := (83, [(0, .ref c), (1, .int 2)], [.int (nI l2)], M)) rfl h_mr rfl ?_
  exact ps_reti rfl (⟨rfl, rfl⟩)
set_option maxHeartbeats 1000000 in
theorem dk_num3 {g : xe_G} {M : mi_H} {f : Nat → Int32} {n N q c b da fr mr p1 l1 l2 q1 q2 q3 q4 q5 q6 : Nat} {R1 R2 : Nat → Value} {cc u2 u3 u5 x8 x9 x10 x11 x12 x13 x14 x15 x16 : Int32} (h_c : M.1 c = some (ob 3 [.ref b, .ref q, .int u2, .int u3, .int (nI p1), .int u5, .ref fr, .ref mr, .int x8, .int x9, .int x10, .int x11, .int x12, .int x13, .int x14, .int x15, .int x16])) (h_b : M.1 b = some (ob 1 [.ref da])) (h_da : M.1 da = some (ar .byte n f)) (h_q : M.1 q = some (ob 7 [.int (nI N), .ref q1, .ref q2, .ref q3, .ref q4, .ref q5, .ref q6, .int cc])) (h_fr : M.1 fr = some (ro "ClassGate$Member" l1 R1)) (h_mr : M.1 mr = some (ro "ClassGate$Member" l2 R2)) (hn : n ≤ 65540) (hp1 : p1 + 8 ≤ n) : pt (mT g) 73 [.ref c, .int 3] M (fun v M' => (v = some (.int u5) ∧ M = M')) := by
  refine pt_in (b := mb_73 g) rfl (fun kf => ?_)
  show pl (mT g) kf (mb_73 g).2 (0, [(0, .ref c), (1, .int 3)], [], M) _
  refine ps_st (S' := (1, [(0, .ref c), (1, .int 3)], [.int 3], M)) rfl rfl rfl ?_
  refine ps_st (S' := (84, [(0, .ref c), (1, .int 3)], [], M)) rfl rfl rfl ?_
  refine ps_st (S' := (85, [(0, .ref c), (1, .int 3)], [.ref c], M)) rfl rfl rfl ?_
  refine ps_get (S' := (88, [(0, .ref c), (1, .int 3)], [.int u5], M)) rfl h_c rfl rfl ?_
  exact ps_reti rfl (⟨rfl, rfl⟩)
set_option maxHeartbeats 1000000 in
theorem dk_num4 {g : xe_G} {M : mi_H} {f : Nat → Int32} {n N q c b da fr mr p1 l1 l2 q1 q2 q3 q4 q5 q6 : Nat} {R1 R2 : Nat → Value} {cc u2 u3 u5 x8 x9 x10 x11 x12 x13 x14 x15 x16 : Int32} (h_c : M.1 c = some (ob 3 [.ref b, .ref q, .int u2, .int u3, .int (nI p1), .int u5, .ref fr, .ref mr, .int x8, .int x9, .int x10, .int x11, .int x12, .int x13, .int x14, .int x15, .int x16])) (h_b : M.1 b = some (ob 1 [.ref da])) (h_da : M.1 da = some (ar .byte n f)) (h_q : M.1 q = some (ob 7 [.int (nI N), .ref q1, .ref q2, .ref q3, .ref q4, .ref q5, .ref q6, .int cc])) (h_fr : M.1 fr = some (ro "ClassGate$Member" l1 R1)) (h_mr : M.1 mr = some (ro "ClassGate$Member" l2 R2)) (hn : n ≤ 65540) (hp1 : p1 + 8 ≤ n) : pt (mT g) 73 [.ref c, .int 4] M (fun v M' => (v = some (.int x11) ∧ M = M')) := by
  refine pt_in (b := mb_73 g) rfl (fun kf => ?_)
  show pl (mT g) kf (mb_73 g).2 (0, [(0, .ref c), (1, .int 4)], [], M) _
  refine ps_st (S' := (1, [(0, .ref c), (1, .int 4)], [.int 4], M)) rfl rfl rfl ?_
  refine ps_st (S' := (147, [(0, .ref c), (1, .int 4)], [], M)) rfl rfl rfl ?_
  refine ps_st (S' := (148, [(0, .ref c), (1, .int 4)], [.ref c], M)) rfl rfl rfl ?_
  refine ps_st (S' := (149, [(0, .ref c), (1, .int 4)], [.int 4, .ref c], M)) rfl rfl rfl ?_
  refine pl_call (a := [.ref c, .int 4]) (rest := []) rfl rfl rfl (dk_anum4 (f := f) (n := n) (N := N) (q := q) (c := c) (b := b) (da := da) (fr := fr) (mr := mr) (p1 := p1) (l1 := l1) (l2 := l2) (q1 := q1) (q2 := q2) (q3 := q3) (q4 := q4) (q5 := q5) (q6 := q6) (R1 := R1) (R2 := R2) (cc := cc) (u2 := u2) (u3 := u3) (u5 := u5) (x8 := x8) (x9 := x9) (x10 := x10) (x11 := x11) (x12 := x12) (x13 := x13) (x14 := x14) (x15 := x15) (x16 := x16) h_c) (fun v1 M2 q3 => ?_)
  obtain ⟨rfl, rfl⟩ := q3
  show pl _ _ _ (152, [(0, .ref c), (1, .int 4)], [.int x11], M) _
  exact ps_reti rfl (⟨rfl, rfl⟩)
set_option maxHeartbeats 1000000 in
theorem dk_num5 {g : xe_G} {M : mi_H} {f : Nat → Int32} {n N q c b da fr mr p1 l1 l2 q1 q2 q3 q4 q5 q6 : Nat} {R1 R2 : Nat → Value} {cc u2 u3 u5 x8 x9 x10 x11 x12 x13 x14 x15 x16 : Int32} (h_c : M.1 c = some (ob 3 [.ref b, .ref q, .int u2, .int u3, .int (nI p1), .int u5, .ref fr, .ref mr, .int x8, .int x9, .int x10, .int x11, .int x12, .int x13, .int x14, .int x15, .int x16])) (h_b : M.1 b = some (ob 1 [.ref da])) (h_da : M.1 da = some (ar .byte n f)) (h_q : M.1 q = some (ob 7 [.int (nI N), .ref q1, .ref q2, .ref q3, .ref q4, .ref q5, .ref q6, .int cc])) (h_fr : M.1 fr = some (ro "ClassGate$Member" l1 R1)) (h_mr : M.1 mr = some (ro "ClassGate$Member" l2 R2)) (hn : n ≤ 65540) (hp1 : p1 + 8 ≤ n) : pt (mT g) 73 [.ref c, .int 5] M (fun v M' => (v = some (.int x10) ∧ M = M')) := by
  refine pt_in (b := mb_73 g) rfl (fun kf => ?_)
  show pl (mT g) kf (mb_73 g).2 (0, [(0, .ref c), (1, .int 5)], [], M) _
  refine ps_st (S' := (1, [(0, .ref c), (1, .int 5)], [.int 5], M)) rfl rfl rfl ?_
  refine ps_st (S' := (147, [(0, .ref c), (1, .int 5)], [], M)) rfl rfl rfl ?_
  refine ps_st (S' := (148, [(0, .ref c), (1, .int 5)], [.ref c], M)) rfl rfl rfl ?_
  refine ps_st (S' := (149, [(0, .ref c), (1, .int 5)], [.int 5, .ref c], M)) rfl rfl rfl ?_
  refine pl_call (a := [.ref c, .int 5]) (rest := []) rfl rfl rfl (dk_anum5 (f := f) (n := n) (N := N) (q := q) (c := c) (b := b) (da := da) (fr := fr) (mr := mr) (p1 := p1) (l1 := l1) (l2 := l2) (q1 := q1) (q2 := q2) (q3 := q3) (q4 := q4) (q5 := q5) (q6 := q6) (R1 := R1) (R2 := R2) (cc := cc) (u2 := u2) (u3 := u3) (u5 := u5) (x8 := x8) (x9 := x9) (x10 := x10) (x11 := x11) (x12 := x12) (x13 := x13) (x14 := x14) (x15 := x15) (x16 := x16) h_c) (fun v1 M2 q3 => ?_)
  obtain ⟨rfl, rfl⟩ := q3
  show pl _ _ _ (152, [(0, .ref c), (1, .int 5)], [.int x10], M) _
  exact ps_reti rfl (⟨rfl, rfl⟩)
set_option maxHeartbeats 1000000 in
theorem dk_num6 {g : xe_G} {M : mi_H} {f : Nat → Int32} {n N q c b da fr mr p1 l1 l2 q1 q2 q3 q4 q5 q6 : Nat} {R1 R2 : Nat → Value} {cc u2 u3 u5 x8 x9 x10 x11 x12 x13 x14 x15 x16 : Int32} (h_c : M.1 c = some (ob 3 [.ref b, .ref q, .int u2, .int u3, .int (nI p1), .int u5, .ref fr, .ref mr, .int x8, .int x9, .int x10, .int x11, .int x12, .int x13, .int x14, .int x15, .int x16])) (h_b : M.1 b = some (ob 1 [.ref da])) (h_da : M.1 da = some (ar .byte n f)) (h_q : M.1 q = some (ob 7 [.int (nI N), .ref q1, .ref q2, .ref q3, .ref q4, .ref q5, .ref q6, .int cc])) (h_fr : M.1 fr = some (ro "ClassGate$Member" l1 R1)) (h_mr : M.1 mr = some (ro "ClassGate$Member" l2 R2)) (hn : n ≤ 65540) (hp1 : p1 + 8 ≤ n) : pt (mT g) 73 [.ref c, .int 6] M (fun v M' => (v = some (.int (nI (by2 f p1))) ∧ M = M')) := by
  refine pt_in (b := mb_73 g) rfl (fun kf => ?_)
  show pl (mT g) kf (mb_73 g).2 (0, [(0, .ref c), (1, .int 6)], [], M) _
  refine ps_st (S' := (1, [(0, .ref c), (1, .int 6)], [.int 6], M)) rfl rfl rfl ?_
  refine ps_st (S' := (89, [(0, .ref c), (1, .int 6)], [], M)) rfl rfl rfl ?_
  refine ps_st (S' := (90, [(0, .ref c), (1, .int 6)], [.ref c], M)) rfl rfl rfl ?_
  refine ps_get (S' := (93, [(0, .ref c), (1, .int 6)], [.ref b], M)) rfl h_c rfl rfl ?_
  refine ps_st (S' := (94, [(0, .ref c), (1, .int 6)], [.ref c, .ref b], M)) rfl rfl rfl ?_
  refine ps_get (S' := (97, [(0, .ref c), (1, .int 6)], [.int (nI p1), .ref b], M)) rfl h_c rfl rfl ?_
  refine pl_call (a := [.ref b, .int (nI p1)]) (rest := []) rfl rfl rfl (dk_u2 (f := f) (n := n) (b := b) (da := da) (p := (p1)) h_b h_da (hn) (by omega)) (fun v1 M2 q3 => ?_)
  obtain ⟨rfl, rfl⟩ := q3
  show pl _ _ _ (100, [(0, .ref c), (1, .int 6)], [.int (nI (by2 f (p1)))], M) _
  have hu_97 := by2_lt f (p1)
  exact ps_reti rfl (⟨rfl, rfl⟩)
set_option maxHeartbeats 1000000 in
theorem dk_num7 {g : xe_G} {M : mi_H} {f : Nat → Int32} {n N q c b da fr mr p1 l1 l2 q1 q2 q3 q4 q5 q6 : Nat} {R1 R2 : Nat → Value} {cc u2 u3 u5 x8 x9 x10 x11 x12 x13 x14 x15 x16 : Int32} (h_c : M.1 c = some (ob 3 [.ref b, .ref q, .int u2, .int u3, .int (nI p1), .int u5, .ref fr, .ref mr, .int x8, .int x9, .int x10, .int x11, .int x12, .int x13, .int x14, .int x15, .int x16])) (h_b : M.1 b = some (ob 1 [.ref da])) (h_da : M.1 da = some (ar .byte n f)) (h_q : M.1 q = some (ob 7 [.int (nI N), .ref q1, .ref q2, .ref q3, .ref q4, .ref q5, .ref q6, .int cc])) (h_fr : M.1 fr = some (ro "ClassGate$Member" l1 R1)) (h_mr : M.1 mr = some (ro "ClassGate$Member" l2 R2)) (hn : n ≤ 65540) (hp1 : p1 + 8 ≤ n) : pt (mT g) 73 [.ref c, .int 7] M (fun v M' => (v = some (.int u3) ∧ M = M')) := by
  refine pt_in (b := mb_73 g) rfl (fun kf => ?_)
  show pl (mT g) kf (mb_73 g).2 (0, [(0, .ref c), (1, .int 7)], [], M) _
  refine ps_st (S' := (1, [(0, .ref c), (1, .int 7)], [.int 7], M)) rfl rfl rfl ?_
  refine ps_st (S' := (101, [(0, .ref c), (1, .int 7)], [], M)) rfl rfl rfl ?_
  refine ps_st (S' := (102, [(0, .ref c), (1, .int 7)], [.ref c], M)) rfl rfl rfl ?_
  refine ps_get (S' := (105, [(0, .ref c), (1, .int 7)], [.int u3], M)) rfl h_c rfl rfl ?_
  exact ps_reti rfl (⟨rfl, rfl⟩)
set_option maxHeartbeats 1000000 in
theorem dk_num8 {g : xe_G} {M : mi_H} {f : Nat → Int32} {n N q c b da fr mr p1 l1 l2 q1 q2 q3 q4 q5 q6 : Nat} {R1 R2 : Nat → Value} {cc u2 u3 u5 x8 x9 x10 x11 x12 x13 x14 x15 x16 : Int32} (h_c : M.1 c = some (ob 3 [.ref b, .ref q, .int u2, .int u3, .int (nI p1), .int u5, .ref fr, .ref mr, .int x8, .int x9, .int x10, .int x11, .int x12, .int x13, .int x14, .int x15, .int x16])) (h_b : M.1 b = some (ob 1 [.ref da])) (h_da : M.1 da = some (ar .byte n f)) (h_q : M.1 q = some (ob 7 [.int (nI N), .ref q1, .ref q2, .ref q3, .ref q4, .ref q5, .ref q6, .int cc])) (h_fr : M.1 fr = some (ro "ClassGate$Member" l1 R1)) (h_mr : M.1 mr = some (ro "ClassGate$Member" l2 R2)) (hn : n ≤ 65540) (hp1 : p1 + 8 ≤ n) : pt (mT g) 73 [.ref c, .int 8] M (fun v M' => (v = some (.int u2) ∧ M = M')) := by
  refine pt_in (b := mb_73 g) rfl (fun kf => ?_)
  show pl (mT g) kf (mb_73 g).2 (0, [(0, .ref c), (1, .int 8)], [], M) _
  refine ps_st (S' := (1, [(0, .ref c), (1, .int 8)], [.int 8], M)) rfl rfl rfl ?_
  refine ps_st (S' := (106, [(0, .ref c), (1, .int 8)], [], M)) rfl rfl rfl ?_
  refine ps_st (S' := (107, [(0, .ref c), (1, .int 8)], [.ref c], M)) rfl rfl rfl ?_
  refine ps_get (S' := (110, [(0, .ref c), (1, .int 8)], [.int u2], M)) rfl h_c rfl rfl ?_
  exact ps_reti rfl (⟨rfl, rfl⟩)
set_option maxHeartbeats 1000000 in
theorem dk_num9 {g : xe_G} {M : mi_H} {f : Nat → Int32} {n N q c b da fr mr p1 l1 l2 q1 q2 q3 q4 q5 q6 : Nat} {R1 R2 : Nat → Value} {cc u2 u3 u5 x8 x9 x10 x11 x12 x13 x14 x15 x16 : Int32} (h_c : M.1 c = some (ob 3 [.ref b, .ref q, .int u2, .int u3, .int (nI p1), .int u5, .ref fr, .ref mr, .int x8, .int x9, .int x10, .int x11, .int x12, .int x13, .int x14, .int x15, .int x16])) (h_b : M.1 b = some (ob 1 [.ref da])) (h_da : M.1 da = some (ar .byte n f)) (h_q : M.1 q = some (ob 7 [.int (nI N), .ref q1, .ref q2, .ref q3, .ref q4, .ref q5, .ref q6, .int cc])) (h_fr : M.1 fr = some (ro "ClassGate$Member" l1 R1)) (h_mr : M.1 mr = some (ro "ClassGate$Member" l2 R2)) (hn : n ≤ 65540) (hp1 : p1 + 8 ≤ n) : pt (mT g) 73 [.ref c, .int 9] M (fun v M' => (v = some (.int (nI (by2 f (p1 + 2)))) ∧ M = M')) := by
  refine pt_in (b := mb_73 g) rfl (fun kf => ?_)
  show pl (mT g) kf (mb_73 g).2 (0, [(0, .ref c), (1, .int 9)], [], M) _
  refine ps_st (S' := (1, [(0, .ref c), (1, .int 9)], [.int 9], M)) rfl rfl rfl ?_
  refine ps_st (S' := (111, [(0, .ref c), (1, .int 9)], [], M)) rfl rfl rfl ?_
  refine ps_st (S' := (112, [(0, .ref c), (1, .int 9)], [.ref c], M)) rfl rfl rfl ?_
  refine ps_get (S' := (115, [(0, .ref c), (1, .int 9)], [.ref b], M)) rfl h_c rfl rfl ?_
  refine ps_st (S' := (116, [(0, .ref c), (1, .int 9)], [.ref c, .ref b], M)) rfl rfl rfl ?_
  refine ps_get (S' := (119, [(0, .ref c), (1, .int 9)], [.int (nI p1), .ref b], M)) rfl h_c rfl rfl ?_
  refine ps_st (S' := (120, [(0, .ref c), (1, .int 9)], [.int 2, .int (nI p1), .ref b], M)) rfl rfl rfl ?_
  refine ps_st (S' := (121, [(0, .ref c), (1, .int 9)], [.int ((nI p1) + 2), .ref b], M)) rfl rfl rfl ?_
  rw [nI_add1 (p := p1) (k := 2) (x := 2) rfl (by omega)]
  show pl _ _ _ (_, [(0, .ref c), (1, .int 9)], [.int (nI (p1 + 2)), .ref b], M) _
  refine pl_call (a := [.ref b, .int (nI (p1 + 2))]) (rest := []) rfl rfl rfl (dk_u2 (f := f) (n := n) (b := b) (da := da) (p := (p1 + 2)) h_b h_da (hn) (by omega)) (fun v1 M2 q3 => ?_)
  obtain ⟨rfl, rfl⟩ := q3
  show pl _ _ _ (124, [(0, .ref c), (1, .int 9)], [.int (nI (by2 f (p1 + 2)))], M) _
  have hu_121 := by2_lt f (p1 + 2)
  exact ps_reti rfl (⟨rfl, rfl⟩)
set_option maxHeartbeats 1000000 in
theorem dk_num10 {g : xe_G} {M : mi_H} {f : Nat → Int32} {n N q c b da fr mr p1 l1 l2 q1 q2 q3 q4 q5 q6 : Nat} {R1 R2 : Nat → Value} {cc u2 u3 u5 x8 x9 x10 x11 x12 x13 x14 x15 x16 : Int32} (h_c : M.1 c = some (ob 3 [.ref b, .ref q, .int u2, .int u3, .int (nI p1), .int u5, .ref fr, .ref mr, .int x8, .int x9, .int x10, .int x11, .int x12, .int x13, .int x14, .int x15, .int x16])) (h_b : M.1 b = some (ob 1 [.ref da])) (h_da : M.1 da = some (ar .byte n f)) (h_q : M.1 q = some (ob 7 [.int (nI N), .ref q1, .ref q2, .ref q3, .ref q4, .ref q5, .ref q6, .int cc])) (h_fr : M.1 fr = some (ro "ClassGate$Member" l1 R1)) (h_mr : M.1 mr = some (ro "ClassGate$Member" l2 R2)) (hn : n ≤ 65540) (hp1 : p1 + 8 ≤ n) : pt (mT g) 73 [.ref c, .int 10] M (fun v M' => (v = some (.int (nI (by2 f (p1 + 4)))) ∧ M = M')) := by
  refine pt_in (b := mb_73 g) rfl (fun kf => ?_)
  show pl (mT g) kf (mb_73 g).2 (0, [(0, .ref c), (1, .int 10)], [], M) _
  refine ps_st (S' := (1, [(0, .ref c), (1, .int 10)], [.int 10], M)) rfl rfl rfl ?_
  refine ps_st (S' := (125, [(0, .ref c), (1, .int 10)], [], M)) rfl rfl rfl ?_
  refine ps_st (S' := (126, [(0, .ref c), (1, .int 10)], [.ref c], M)) rfl rfl rfl ?_
  refine ps_get (S' := (129, [(0, .ref c), (1, .int 10)], [.ref b], M)) rfl h_c rfl rfl ?_
  refine ps_st (S' := (130, [(0, .ref c), (1, .int 10)], [.ref c, .ref b], M)) rfl rfl rfl ?_
  refine ps_get (S' := (133, [(0, .ref c), (1, .int 10)], [.int (nI p1), .ref b], M)) rfl h_c rfl rfl ?_
  refine ps_st (S' := (134, [(0, .ref c), (1, .int 10)], [.int 4, .int (nI p1), .ref b], M)) rfl rfl rfl ?_
  refine ps_st (S' := (135, [(0, .ref c), (1, .int 10)], [.int ((nI p1) + 4), .ref b], M)) rfl rfl rfl ?_
  rw [nI_add1 (p := p1) (k := 4) (x := 4) rfl (by omega)]
  show pl _ _ _ (_, [(0, .ref c), (1, .int 10)], [.int (nI (p1 + 4)), .ref b], M) _
  refine pl_call (a := [.ref b, .int (nI (p1 + 4))]) (rest := []) rfl rfl rfl (dk_u2 (f := f) (n := n) (b := b) (da := da) (p := (p1 + 4)) h_b h_da (hn) (by omega)) (fun v1 M2 q3 => ?_)
  obtain ⟨rfl, rfl⟩ := q3
  show pl _ _ _ (138, [(0, .ref c), (1, .int 10)], [.int (nI (by2 f (p1 + 4)))], M) _
  have hu_135 := by2_lt f (p1 + 4)
  exact ps_reti rfl (⟨rfl, rfl⟩)
set_option maxHeartbeats 1000000 in
theorem dk_num11 {g : xe_G} {M : mi_H} {f : Nat → Int32} {n N q c b da fr mr p1 l1 l2 q1 q2 q3 q4 q5 q6 : Nat} {R1 R2 : Nat → Value} {cc u2 u3 u5 x8 x9 x10 x11 x12 x13 x14 x15 x16 : Int32} (h_c : M.1 c = some (ob 3 [.ref b, .ref q, .int u2, .int u3, .int (nI p1), .int u5, .ref fr, .ref mr, .int x8, .int x9, .int x10, .int x11, .int x12, .int x13, .int x14, .int x15, .int x16])) (h_b : M.1 b = some (ob 1 [.ref da])) (h_da : M.1 da = some (ar .byte n f)) (h_q : M.1 q = some (ob 7 [.int (nI N), .ref q1, .ref q2, .ref q3, .ref q4, .ref q5, .ref q6, .int cc])) (h_fr : M.1 fr = some (ro "ClassGate$Member" l1 R1)) (h_mr : M.1 mr = some (ro "ClassGate$Member" l2 R2)) (hn : n ≤ 65540) (hp1 : p1 + 8 ≤ n) : pt (mT g) 73 [.ref c, .int 11] M (fun v M' => (v = some (.int cc) ∧ M = M')) := by
  refine pt_in (b := mb_73 g) rfl (fun kf => ?_)
  show pl (mT g) kf (mb_73 g).2 (0, [(0, .ref c), (1, .int 11)], [], M) _
  refine ps_st (S' := (1, [(0, .ref c), (1, .int 11)], [.int 11], M)) rfl rfl rfl ?_
  refine ps_st (S' := (139, [(0, .ref c), (1, .int 11)], [], M)) rfl rfl rfl ?_
  refine ps_st (S' := (140, [(0, .ref c), (1, .int 11)], [.ref c], M)) rfl rfl rfl ?_
  refine ps_get (S' := (143, [(0, .ref c), (1, .int 11)], [.ref q], M)) rfl h_c rfl rfl ?_
  refine ps_get (S' := (146, [(0, .ref c), (1, .int 11)], [.int cc], M)) rfl h_q rfl rfl ?_
  exact ps_reti rfl (⟨rfl, rfl⟩)
set_option maxHeartbeats 1000000 in
theorem dk_num12 {g : xe_G} {M : mi_H} {f : Nat → Int32} {n N q c b da fr mr p1 l1 l2 q1 q2 q3 q4 q5 q6 : Nat} {R1 R2 : Nat → Value} {cc u2 u3 u5 x8 x9 x10 x11 x12 x13 x14 x15 x16 : Int32} (h_c : M.1 c = some (ob 3 [.ref b, .ref q, .int u2, .int u3, .int (nI p1), .int u5, .ref fr, .ref mr, .int x8, .int x9, .int x10, .int x11, .int x12, .int x13, .int x14, .int x15, .int x16])) (h_b : M.1 b = some (ob 1 [.ref da])) (h_da : M.1 da = some (ar .byte n f)) (h_q : M.1 q = some (ob 7 [.int (nI N), .ref q1, .ref q2, .ref q3, .ref q4, .ref q5, .ref q6, .int cc])) (h_fr : M.1 fr = some (ro "ClassGate$Member" l1 R1)) (h_mr : M.1 mr = some (ro "ClassGate$Member" l2 R2)) (hn : n ≤ 65540) (hp1 : p1 + 8 ≤ n) : pt (mT g) 73 [.ref c, .int 12] M (fun v M' => (v = some (.int x13) ∧ M = M')) := by
  refine pt_in (b := mb_73 g) rfl (fun kf => ?_)
  show pl (mT g) kf (mb_73 g).2 (0, [(0, .ref c), (1, .int 12)], [], M) _
  refine ps_st (S' := (1, [(0, .ref c), (1, .int 12)], [.int 12], M)) rfl rfl rfl ?_
  refine ps_st (S' := (147, [(0, .ref c), (1, .int 12)], [], M)) rfl rfl rfl ?_
  refine ps_st (S' := (148, [(0, .ref c), (1, .int 12)], [.ref c], M)) rfl rfl rfl ?_
  refine ps_st (S' := (149, [(0, .ref c), (1, .int 12)], [.int 12, .ref c], M)) rfl rfl rfl ?_
  refine pl_call (a := [.ref c, .int 12]) (rest := []) rfl rfl rfl (dk_anum12 (f := f) (n := n) (N := N) (q := q) (c := c) (b := b) (da := da) (fr := fr) (mr := mr) (p1 := p1) (l1 := l1) (l2 := l2) (q1 := q1) (q2 := q2) (q3 := q3) (q4 := q4) (q5 := q5) (q6 := q6) (R1 := R1) (R2 := R2) (cc := cc) (u2 := u2) (u3 := u3) (u5 := u5) (x8 := x8) (x9 := x9) (x10 := x10) (x11 := x11) (x12 := x12) (x13 := x13) (x14 := x14) (x15 := x15) (x16 := x16) h_c) (fun v1 M2 q3 => ?_)
  obtain ⟨rfl, rfl⟩ := q3
  show pl _ _ _ (152, [(0, .ref c), (1, .int 12)], [.int x13], M) _
  exact ps_reti rfl (⟨rfl, rfl⟩)
set_option maxHeartbeats 1000000 in
theorem dk_num13 {g : xe_G} {M : mi_H} {f : Nat → Int32} {n N q c b da fr mr p1 l1 l2 q1 q2 q3 q4 q5 q6 : Nat} {R1 R2 : Nat → Value} {cc u2 u3 u5 x8 x9 x10 x11 x12 x13 x14 x15 x16 : Int32} (h_c : M.1 c = some (ob 3 [.ref b, .ref q, .int u2, .int u3, .int (nI p1), .int u5, .ref fr, .ref mr, .int x8, .int x9, .int x10, .int x11, .int x12, .int x13, .int x14, .int x15, .int x16])) (h_b : M.1 b = some (ob 1 [.ref da])) (h_da : M.1 da = some (ar .byte n f)) (h_q : M.1 q = some (ob 7 [.int (nI N), .ref q1, .ref q2, .ref q3, .ref q4, .ref q5, .ref q6, .int cc])) (h_fr : M.1 fr = some (ro "ClassGate$Member" l1 R1)) (h_mr : M.1 mr = some (ro "ClassGate$Member" l2 R2)) (hn : n ≤ 65540) (hp1 : p1 + 8 ≤ n) : pt (mT g) 73 [.ref c, .int 13] M (fun v M' => (v = some (.int x14) ∧ M = M')) := by
  refine pt_in (b := mb_73 g) rfl (fun kf => ?_)
  show pl (mT g) kf (mb_73 g).2 (0, [(0, .ref c), (1, .int 13)], [], M) _
  refine ps_st (S' := (1, [(0, .ref c), (1, .int 13)], [.int 13], M)) rfl rfl rfl ?_
  refine ps_st (S' := (147, [(0, .ref c), (1, .int 13)], [], M)) rfl rfl rfl ?_
  refine ps_st (S' := (148, [(0, .ref c), (1, .int 13)], [.ref c], M)) rfl rfl rfl ?_
  refine ps_st (S' := (149, [(0, .ref c), (1, .int 13)], [.int 13, .ref c], M)) rfl rfl rfl ?_
  refine pl_call (a := [.ref c, .int 13]) (rest := []) rfl rfl rfl (dk_anum13 (f := f) (n := n) (N := N) (q := q) (c := c) (b := b) (da := da) (fr := fr) (mr := mr) (p1 := p1) (l1 := l1) (l2 := l2) (q1 := q1) (q2 := q2) (q3 := q3) (q4 := q4) (q5 := q5) (q6 := q6) (R1 := R1) (R2 := R2) (cc := cc) (u2 := u2) (u3 := u3) (u5 := u5) (x8 := x8) (x9 := x9) (x10 := x10) (x11 := x11) (x12 := x12) (x13 := x13) (x14 := x14) (x15 := x15) (x16 := x16) h_c) (fun v1 M2 q3 => ?_)
  obtain ⟨rfl, rfl⟩ := q3
  show pl _ _ _ (152, [(0, .ref c), (1, .int 13)], [.int x14], M) _
  exact ps_reti rfl (⟨rfl, rfl⟩)
set_option maxHeartbeats 1000000 in
theorem dk_num14 {g : xe_G} {M : mi_H} {f : Nat → Int32} {n N q c b da fr mr p1 l1 l2 q1 q2 q3 q4 q5 q6 : Nat} {R1 R2 : Nat → Value} {cc u2 u3 u5 x8 x9 x10 x11 x12 x13 x14 x15 x16 : Int32} (h_c : M.1 c = some (ob 3 [.ref b, .ref q, .int u2, .int u3, .int (nI p1), .int u5, .ref fr, .ref mr, .int x8, .int x9, .int x10, .int x11, .int x12, .int x13, .int x14, .int x15, .int x16])) (h_b : M.1 b = some (ob 1 [.ref da])) (h_da : M.1 da = some (ar .byte n f)) (h_q : M.1 q = some (ob 7 [.int (nI N), .ref q1, .ref q2, .ref q3, .ref q4, .ref q5, .ref q6, .int cc])) (h_fr : M.1 fr = some (ro "ClassGate$Member" l1 R1)) (h_mr : M.1 mr = some (ro "ClassGate$Member" l2 R2)) (hn : n ≤ 65540) (hp1 : p1 + 8 ≤ n) : pt (mT g) 73 [.ref c, .int 14] M (fun v M' => (v = some (.int x15) ∧ M = M')) := by
  refine pt_in (b := mb_73 g) rfl (fun kf => ?_)
  show pl (mT g) kf (mb_73 g).2 (0, [(0, .ref c), (1, .int 14)], [], M) _
  refine ps_st (S' := (1, [(0, .ref c), (1, .int 14)], [.int 14], M)) rfl rfl rfl ?_
  refine ps_st (S' := (147, [(0, .ref c), (1, .int 14)], [], M)) rfl rfl rfl ?_
  refine ps_st (S' := (148, [(0, .ref c), (1, .int 14)], [.ref c], M)) rfl rfl rfl ?_
  refine ps_st (S' := (149, [(0, .ref c), (1, .int 14)], [.int 14, .ref c], M)) rfl rfl rfl ?_
  refine pl_call (a := [.ref c, .int 14]) (rest := []) rfl rfl rfl (dk_anum14 (f := f) (n := n) (N := N) (q := q) (c := c) (b := b) (da := da) (fr := fr) (mr := mr) (p1 := p1) (l1 := l1) (l2 := l2) (q1 := q1) (q2 := q2) (q3 := q3) (q4 := q4) (q5 := q5) (q6 := q6) (R1 := R1) (R2 := R2) (cc := cc) (u2 := u2) (u3 := u3) (u5 := u5) (x8 := x8) (x9 := x9) (x10 := x10) (x11 := x11) (x12 := x12) (x13 := x13) (x14 := x14) (x15 := x15) (x16 := x16) h_c) (fun v1 M2 q3 => ?_)
  obtain ⟨rfl, rfl⟩ := q3
  show pl _ _ _ (152, [(0, .ref c), (1, .int 14)], [.int x15], M) _
  exact ps_reti rfl (⟨rfl, rfl⟩)
set_option maxHeartbeats 1000000 in
theorem dk_num15 {g : xe_G} {M : mi_H} {f : Nat → Int32} {n N q c b da fr mr p1 l1 l2 q1 q2 q3 q4 q5 q6 : Nat} {R1 R2 : Nat → Value} {cc u2 u3 u5 x8 x9 x10 x11 x12 x13 x14 x15 x16 : Int32} (h_c : M.1 c = some (ob 3 [.ref b, .ref q, .int u2, .int u3, .int (nI p1), .int u5, .ref fr, .ref mr, .int x8, .int x9, .int x10, .int x11, .int x12, .int x13, .int x14, .int x15, .int x16])) (h_b : M.1 b = some (ob 1 [.ref da])) (h_da : M.1 da = some (ar .byte n f)) (h_q : M.1 q = some (ob 7 [.int (nI N), .ref q1, .ref q2, .ref q3, .ref q4, .ref q5, .ref q6, .int cc])) (h_fr : M.1 fr = some (ro "ClassGate$Member" l1 R1)) (h_mr : M.1 mr = some (ro "ClassGate$Member" l2 R2)) (hn : n ≤ 65540) (hp1 : p1 + 8 ≤ n) : pt (mT g) 73 [.ref c, .int 15] M (fun v M' => (v = some (.int x16) ∧ M = M')) := by
  refine pt_in (b := mb_73 g) rfl (fun kf => ?_)
  show pl (mT g) kf (mb_73 g).2 (0, [(0, .ref c), (1, .int 15)], [], M) _
  refine ps_st (S' := (1, [(0, .ref c), (1, .int 15)], [.int 15], M)) rfl rfl rfl ?_
  refine ps_st (S' := (147, [(0, .ref c), (1, .int 15)], [], M)) rfl rfl rfl ?_
  refine ps_st (S' := (148, [(0, .ref c), (1, .int 15)], [.ref c], M)) rfl rfl rfl ?_
  refine ps_st (S' := (149, [(0, .ref c), (1, .int 15)], [.int 15, .ref c], M)) rfl rfl rfl ?_
  refine pl_call (a := [.ref c, .int 15]) (rest := []) rfl rfl rfl (dk_anum15 (f := f) (n := n) (N := N) (q := q) (c := c) (b := b) (da := da) (fr := fr) (mr := mr) (p1 := p1) (l1 := l1) (l2 := l2) (q1 := q1) (q2 := q2) (q3 := q3) (q4 := q4) (q5 := q5) (q6 := q6) (R1 := R1) (R2 := R2) (cc := cc) (u2 := u2) (u3 := u3) (u5 := u5) (x8 := x8) (x9 := x9) (x10 := x10) (x11 := x11) (x12 := x12) (x13 := x13) (x14 := x14) (x15 := x15) (x16 := x16) h_c) (fun v1 M2 q3 => ?_)
  obtain ⟨rfl, rfl⟩ := q3
  show pl _ _ _ (152, [(0, .ref c), (1, .int 15)], [.int x16], M) _
  exact ps_reti rfl (⟨rfl, rfl⟩)
set_option maxHeartbeats 1000000 in
theorem dk_count0 {g : xe_G} {M : mi_H} {o ca fl : Nat} {cn wp w : Int32} (h_o : M.1 o = some (ob 11 [.ref ca, .int cn, .ref fl, .null, .int wp])) (h0 : ¬ w < 0) (h1 : w ≤ 15) : pt (mT g) 5 [.ref o, .int w] M (fun v M' => (v = some (.int (-1)) ∧ M = M')) := by
  refine pt_in (b := mb_5 g) rfl (fun kf => ?_)
  show pl (mT g) kf (mb_5 g).2 (0, [(0, .ref o), (1, .int w)], [], M) _
  refine ps_st (S' := (1, [(0, .ref o), (1, .int w)], [.int w], M)) rfl rfl rfl ?_
  refine ps_if (S1 := (10, [(0, .ref o), (1, .int w)], [], M)) (S2 := (4, [(0, .ref o), (1, .int w)], [], M)) rfl rfl rfl (fun c_1 => ?_) (fun c_1 => ?_)
  · exact absurd (of_decide_eq_true c_1) (h0)
  refine ps_st (S' := (5, [(0, .ref o), (1, .int w)], [.int w], M)) rfl rfl rfl ?_
  refine ps_st (S' := (7, [(0, .ref o), (1, .int w)], [.int 15, .int w], M)) rfl rfl rfl ?_
  refine ps_if2 (S1 := (20, [(0, .ref o), (1, .int w)], [], M)) (S2 := (10, [(0, .ref o), (1, .int w)], [], M)) rfl rfl rfl (fun c_7 => ?_) (fun c_7 => ?_)
  rotate_left
  · exact absurd (h1) (of_decide_eq_false c_7)
  refine ps_st (S' := (21, [(0, .ref o), (1, .int w)], [.ref o], M)) rfl rfl rfl ?_
  refine ps_get (S' := (24, [(0, .ref o), (1, .int w)], [.null], M)) rfl h_o rfl rfl ?_
  refine ps_st (S' := (27, [(0, .ref o), (1, .int w)], [], M)) rfl rfl rfl ?_
  refine ps_st (S' := (28, [(0, .ref o), (1, .int w)], [.int (-1)], M)) rfl rfl rfl ?_
  refine ps_st (S' := (39, [], [.int (-1)], M)) rfl rfl rfl ?_
  exact ps_ret rfl rfl (⟨rfl, rfl⟩)
set_option maxHeartbeats 1000000 in
theorem dk_count_0 {g : xe_G} {M : mi_H} {f : Nat → Int32} {n N q c b da fr mr p1 l1 l2 q1 q2 q3 q4 q5 q6 : Nat} {R1 R2 : Nat → Value} {cc u2 u3 u5 x8 x9 x10 x11 x12 x13 x14 x15 x16 : Int32} {o ca fl : Nat} {cn wp : Int32} (h_o : M.1 o = some (ob 11 [.ref ca, .int cn, .ref fl, .ref c, .int wp])) (h_c : M.1 c = some (ob 3 [.ref b, .ref q, .int u2, .int u3, .int (nI p1), .int u5, .ref fr, .ref mr, .int x8, .int x9, .int x10, .int x11, .int x12, .int x13, .int x14, .int x15, .int x16])) (h_b : M.1 b = some (ob 1 [.ref da])) (h_da : M.1 da = some (ar .byte n f)) (h_q : M.1 q = some (ob 7 [.int (nI N), .ref q1, .ref q2, .ref q3, .ref q4, .ref q5, .ref q6, .int cc])) (h_fr : M.1 fr = some (ro "ClassGate$Member" l1 R1)) (h_mr : M.1 mr = some (ro "ClassGate$Member" l2 R2)) (hn : n ≤ 65540) (hp1 : p1 + 8 ≤ n) : pt (mT g) 5 [.ref o, .int 0] M (fun v M' => (v = some (.int (nI N)) ∧ M = M')) := by
  refine pt_in (b := mb_5 g) rfl (fun kf => ?_)
  show pl (mT g) kf (mb_5 g).2 (0, [(0, .ref o), (1, .int 0)], [], M) _
  refine ps_st (S' := (1, [(0, .ref o), (1, .int 0)], [.int 0], M)) rfl rfl rfl ?_
  refine ps_if (S1 := (10, [(0, .ref o), (1, .int 0)], [], M)) (S2 := (4, [(0, .ref o), (1, .int 0)], [], M)) rfl rfl rfl (fun c_1 => ?_) (fun c_1 => ?_)
  · exact absurd (of_decide_eq_true c_1) (by decide)
  refine ps_st (S' := (5, [(0, .ref o), (1, .int 0)], [.int 0], M)) rfl rfl rfl ?_
  refine ps_st (S' := (7, [(0, .ref o), (1, .int 0)], [.int 15, .int 0], M)) rfl rfl rfl ?_
  refine ps_if2 (S1 := (20, [(0, .ref o), (1, .int 0)], [], M)) (S2 := (10, [(0, .ref o), (1, .int 0)], [], M)) rfl rfl rfl (fun c_7 => ?_) (fun c_7 => ?_)
  rotate_left
  · exact absurd (by decide) (of_decide_eq_false c_7)
  refine ps_st (S' := (21, [(0, .ref o), (1, .int 0)], [.ref o], M)) rfl rfl rfl ?_
  refine ps_get (S' := (24, [(0, .ref o), (1, .int 0)], [.ref c], M)) rfl h_o rfl rfl ?_
  refine ps_st (S' := (31, [(0, .ref o), (1, .int 0)], [], M)) rfl rfl rfl ?_
  refine ps_st (S' := (32, [(0, .ref o), (1, .int 0)], [.ref o], M)) rfl rfl rfl ?_
  refine ps_get (S' := (35, [(0, .ref o), (1, .int 0)], [.ref c], M)) rfl h_o rfl rfl ?_
  refine ps_st (S' := (36, [(0, .ref o), (1, .int 0)], [.int 0, .ref c], M)) rfl rfl rfl ?_
  refine pl_call (a := [.ref c, .int 0]) (rest := []) rfl rfl rfl (dk_num0 (f := f) (n := n) (N := N) (q := q) (c := c) (b := b) (da := da) (fr := fr) (mr := mr) (p1 := p1) (l1 := l1) (l2 := l2) (q1 := q1) (q2 := q2) (q3 := q3) (q4 := q4) (q5 := q5) (q6 := q6) (R1 := R1) (R2 := R2) (cc := cc) (u2 := u2) (u3 := u3) (u5 := u5) (x8 := x8) (x9 := x9) (x10 := x10) (x11 := x11) (x12 := x12) (x13 := x13) (x14 := x14) (x15 := x15) (x16 := x16) h_c h_b h_da h_q h_fr h_mr (hn) (hp1)) (fun v1 M2 q3 => ?_)
  obtain ⟨rfl, rfl⟩ := q3
  show pl _ _ _ (39, [], [.int (nI N)], M) _
  exact ps_reti rfl (⟨rfl, rfl⟩)
set_option maxHeartbeats 1000000 in
theorem dk_count_1 {g : xe_G} {M : mi_H} {f : Nat → Int32} {n N q c b da fr mr p1 l1 l2 q1 q2 q3 q4 q5 q6 : Nat} {R1 R2 : Nat → Value} {cc u2 u3 u5 x8 x9 x10 x11 x12 x13 x14 x15 x16 : Int32} {o ca fl : Nat} {cn wp : Int32} (h_o : M.1 o = some (ob 11 [.ref ca, .int cn, .ref fl, .ref c, .int wp])) (h_c : M.1 c = some (ob 3 [.ref b, .ref q, .int u2, .int u3, .int (nI p1), .int u5, .ref fr, .ref mr, .int x8, .int x9, .int x10, .int x11, .int x12, .int x13, .int x14, .int x15, .int x16])) (h_b : M.1 b = some (ob 1 [.ref da])) (h_da : M.1 da = some (ar .byte n f)) (h_q : M.1 q = some (ob 7 [.int (nI N), .ref q1, .ref q2, .ref q3, .ref q4, .ref q5, .ref q6, .int cc])) (h_fr : M.1 fr = some (ro "ClassGate$Member" l1 R1)) (h_mr : M.1 mr = some (ro "ClassGate$Member" l2 R2)) (hn : n ≤ 65540) (hp1 : p1 + 8 ≤ n) : pt (mT g) 5 [.ref o, .int 1] M (fun v M' => (v = some (.int (nI l1)) ∧ M = M')) := by
  refine pt_in (b := mb_5 g) rfl (fun kf => ?_)
  show pl (mT g) kf (mb_5 g).2 (0, [(0, .ref o), (1, .int 1)], [], M) _
  refine ps_st (S' := (1, [(0, .ref o), (1, .int 1)], [.int 1], M)) rfl rfl rfl ?_
  refine ps_if (S1 := (10, [(0, .ref o), (1, .int 1)], [], M)) (S2 := (4, [(0, .ref o), (1, .int 1)], [], M)) rfl rfl rfl (fun c_1 => ?_) (fun c_1 => ?_)
  · exact absurd (of_decide_eq_true c_1) (by decide)
  refine ps_st (S' := (5, [(0, .ref o), (1, .int 1)], [.int 1], M)) rfl rfl rfl ?_
  refine ps_st (S' := (7, [(0, .ref o), (1, .int 1)], [.int 15, .int 1], M)) rfl rfl rfl ?_
  refine ps_if2 (S1 := (20, [(0, .ref o), (1, .int 1)], [], M)) (S2 := (10, [(0, .ref o), (1, .int 1)], [], M)) rfl rfl rfl (fun c_7 => ?_) (fun c_7 => ?_)
  rotate_left
  · exact absurd (by decide) (of_decide_eq_false c_7)
  refine ps_st (S' := (21, [(0, .ref o), (1, .int 1)], [.ref o], M)) rfl rfl rfl ?_
  refine ps_get (S' := (24, [(0, .ref o), (1, .int 1)], [.ref c], M)) rfl h_o rfl rfl ?_
  refine ps_st (S' := (31, [(0, .ref o), (1, .int 1)], [], M)) rfl rfl rfl ?_
  refine ps_st (S' := (32, [(0, .ref o), (1, .int 1)], [.ref o], M)) rfl rfl rfl ?_
  refine ps_get (S' := (35, [(0, .ref o), (1, .int 1)], [.ref c], M)) rfl h_o rfl rfl ?_
  refine ps_st (S' := (36, [(0, .ref o), (1, .int 1)], [.int 1, .ref c], M)) rfl rfl rfl ?_
  refine pl_call (a := [.ref c, .int 1]) (rest := []) rfl rfl rfl (dk_num1 (f := f) (n := n) (N := N) (q := q) (c := c) (b := b) (da := da) (fr := fr) (mr := mr) (p1 := p1) (l1 := l1) (l2 := l2) (q1 := q1) (q2 := q2) (q3 := q3) (q4 := q4) (q5 := q5) (q6 := q6) (R1 := R1) (R2 := R2) (cc := cc) (u2 := u2) (u3 := u3) (u5 := u5) (x8 := x8) (x9 := x9) (x10 := x10) (x11 := x11) (x12 := x12) (x13 := x13) (x14 := x14) (x15 := x15) (x16 := x16) h_c h_b h_da h_q h_fr h_mr (hn) (hp1)) (fun v1 M2 q3 => ?_)
  obtain ⟨rfl, rfl⟩ := q3
  show pl _ _ _ (39, [], [.int (nI l1)], M) _
  exact ps_reti rfl (⟨rfl, rfl⟩)
set_option maxHeartbeats 1000000 in
theorem dk_count_2 {g : xe_G} {M : mi_H} {f : Nat → Int32} {n N q c b da fr mr p1 l1 l2 q1 q2 q3 q4 q5 q6 : Nat} {R1 R2 : Nat → Value} {cc u2 u3 u5 x8 x9 x10 x11 x12 x13 x14 x15 x16 : Int32} {o ca fl : Nat} {cn wp : Int32} (h_o : M.1 o = some (ob 11 [.ref ca, .int cn, .ref fl, .ref c, .int wp])) (h_c : M.1 c = some (ob 3 [.ref b, .ref q, .int u2, .int u3, .int (nI p1), .int u5, .ref fr, .ref mr, .int x8, .int x9, .int x10, .int x11, .int x12, .int x13, .int x14, .int x15, .int x16])) (h_b : M.1 b = some (ob 1 [.ref da])) (h_da : M.1 da = some (ar .byte n f)) (h_q : M.1 q = some (ob 7 [.int (nI N), .ref q1, .ref q2, .ref q3, .ref q4, .ref q5, .ref q6, .int cc])) (h_fr : M.1 fr = some (ro "ClassGate$Member" l1 R1)) (h_mr : M.1 mr = some (ro "ClassGate$Member" l2 R2)) (hn : n ≤ 65540) (hp1 : p1 + 8 ≤ n) : pt (mT g) 5 [.ref o, .int 2] M (fun v M' => (v = some (.int (nI l2)) ∧ M = M')) := by
  refine pt_in (b := mb_5 g) rfl (fun kf => ?_)
  show pl (mT g) kf (mb_5 g).2 (0, [(0, .ref o), (1, .int 2)], [], M) _
  refine ps_st (S' := (1, [(0, .ref o), (1, .int 2)], [.int 2], M)) rfl rfl rfl ?_
  refine ps_if (S1 := (10, [(0, .ref o), (1, .int 2)], [], M)) (S2 := (4, [(0, .ref o), (1, .int 2)], [], M)) rfl rfl rfl (fun c_1 => ?_) (fun c_1 => ?_)
  · exact absurd (of_decide_eq_true c_1) (by decide)
  refine ps_st (S' := (5, [(0, .ref o), (1, .int 2)], [.int 2], M)) rfl rfl rfl ?_
  refine ps_st (S' := (7, [(0, .ref o), (1, .int 2)], [.int 15, .int 2], M)) rfl rfl rfl ?_
  refine ps_if2 (S1 := (20, [(0, .ref o), (1, .int 2)], [], M)) (S2 := (10, [(0, .ref o), (1, .int 2)], [], M)) rfl rfl rfl (fun c_7 => ?_) (fun c_7 => ?_)
  rotate_left
  · exact absurd (by decide) (of_decide_eq_false c_7)
  refine ps_st (S' := (21, [(0, .ref o), (1, .int 2)], [.ref o], M)) rfl rfl rfl ?_
  refine ps_get (S' := (24, [(0, .ref o), (1, .int 2)], [.ref c], M)) rfl h_o rfl rfl ?_
  refine ps_st (S' := (31, [(0, .ref o), (1, .int 2)], [], M)) rfl rfl rfl ?_
  refine ps_st (S' := (32, [(0, .ref o), (1, .int 2)], [.ref o], M)) rfl rfl rfl ?_
  refine ps_get (S' := (35, [(0, .ref o), (1, .int 2)], [.ref c], M)) rfl h_o rfl rfl ?_
  refine ps_st (S' := (36, [(0, .ref o), (1, .int 2)], [.int 2, .ref c], M)) rfl rfl rfl ?_
  refine pl_call (a := [.ref c, .int 2]) (rest := []) rfl rfl rfl (dk_num2 (f := f) (n := n) (N := N) (q := q) (c := c) (b := b) (da := da) (fr := fr) (mr := mr) (p1 := p1) (l1 := l1) (l2 := l2) (q1 := q1) (q2 := q2) (q3 := q3) (q4 := q4) (q5 := q5) (q6 := q6) (R1 := R1) (R2 := R2) (cc := cc) (u2 := u2) (u3 := u3) (u5 := u5) (x8 := x8) (x9 := x9) (x10 := x10) (x11 := x11) (x12 := x12) (x13 := x13) (x14 := x14) (x15 := x15) (x16 := x16) h_c h_b h_da h_q h_fr h_mr (hn) (hp1)) (fun v1 M2 q3 => ?_)
  obtain ⟨rfl, rfl⟩ := q3
  show pl _ _ _ (39, [], [.int (nI l2)], M) _
  exact ps_reti rfl (⟨rfl, rfl⟩)
set_option maxHeartbeats 1000000 in
theorem dk_count_3 {g : xe_G} {M : mi_H} {f : Nat → Int32} {n N q c b da fr mr p1 l1 l2 q1 q2 q3 q4 q5 q6 : Nat} {R1 R2 : Nat → Value} {cc u2 u3 u5 x8 x9 x10 x11 x12 x13 x14 x15 x16 : Int32} {o ca fl : Nat} {cn wp : Int32} (h_o : M.1 o = some (ob 11 [.ref ca, .int cn, .ref fl, .ref c, .int wp])) (h_c : M.1 c = some (ob 3 [.ref b, .ref q, .int u2, .int u3, .int (nI p1), .int u5, .ref fr, .ref mr, .int x8, .int x9, .int x10, .int x11, .int x12, .int x13, .int x14, .int x15, .int x16])) (h_b : M.1 b = some (ob 1 [.ref da])) (h_da : M.1 da = some (ar .byte n f)) (h_q : M.1 q = some (ob 7 [.int (nI N), .ref q1, .ref q2, .ref q3, .ref q4, .ref q5, .ref q6, .int cc])) (h_fr : M.1 fr = some (ro "ClassGate$Member" l1 R1)) (h_mr : M.1 mr = some (ro "ClassGate$Member" l2 R2)) (hn : n ≤ 65540) (hp1 : p1 + 8 ≤ n) : pt (mT g) 5 [.ref o, .int 3] M (fun v M' => (v = some (.int u5) ∧ M = M')) := by
  refine pt_in (b := mb_5 g) rfl (fun kf => ?_)
  show pl (mT g) kf (mb_5 g).2 (0, [(0, .ref o), (1, .int 3)], [], M) _
  refine ps_st (S' := (1, [(0, .ref o), (1, .int 3)], [.int 3], M)) rfl rfl rfl ?_
  refine ps_if (S1 := (10, [(0, .ref o), (1, .int 3)], [], M)) (S2 := (4, [(0, .ref o), (1, .int 3)], [], M)) rfl rfl rfl (fun c_1 => ?_) (fun c_1 => ?_)
  · exact absurd (of_decide_eq_true c_1) (by decide)
  refine ps_st (S' := (5, [(0, .ref o), (1, .int 3)], [.int 3], M)) rfl rfl rfl ?_
  refine ps_st (S' := (7, [(0, .ref o), (1, .int 3)], [.int 15, .int 3], M)) rfl rfl rfl ?_
  refine ps_if2 (S1 := (20, [(0, .ref o), (1, .int 3)], [], M)) (S2 := (10, [(0, .ref o), (1, .int 3)], [], M)) rfl rfl rfl (fun c_7 => ?_) (fun c_7 => ?_)
  rotate_left
  · exact absurd (by decide) (of_decide_eq_false c_7)
  refine ps_st (S' := (21, [(0, .ref o), (1, .int 3)], [.ref o], M)) rfl rfl rfl ?_
  refine ps_get (S' := (24, [(0, .ref o), (1, .int 3)], [.ref c], M)) rfl h_o rfl rfl ?_
  refine ps_st (S' := (31, [(0, .ref o), (1, .int 3)], [], M)) rfl rfl rfl ?_
  refine ps_st (S' := (32, [(0, .ref o), (1, .int 3)], [.ref o], M)) rfl rfl rfl ?_
  refine ps_get (S' := (35, [(0, .ref o), (1, .int 3)], [.ref c], M)) rfl h_o rfl rfl ?_
  refine ps_st (S' := (36, [(0, .ref o), (1, .int 3)], [.int 3, .ref c], M)) rfl rfl rfl ?_
  refine pl_call (a := [.ref c, .int 3]) (rest := []) rfl rfl rfl (dk_num3 (f := f) (n := n) (N := N) (q := q) (c := c) (b := b) (da := da) (fr := fr) (mr := mr) (p1 := p1) (l1 := l1) (l2 := l2) (q1 := q1) (q2 := q2) (q3 := q3) (q4 := q4) (q5 := q5) (q6 := q6) (R1 := R1) (R2 := R2) (cc := cc) (u2 := u2) (u3 := u3) (u5 := u5) (x8 := x8) (x9 := x9) (x10 := x10) (x11 := x11) (x12 := x12) (x13 := x13) (x14 := x14) (x15 := x15) (x16 := x16) h_c h_b h_da h_q h_fr h_mr (hn) (hp1)) (fun v1 M2 q3 => ?_)
  obtain ⟨rfl, rfl⟩ := q3
  show pl _ _ _ (39, [], [.int u5], M) _
  exact ps_reti rfl (⟨rfl, rfl⟩)
set_option maxHeartbeats 1000000 in
theorem dk_count_4 {g : xe_G} {M : mi_H} {f : Nat → Int32} {n N q c b da fr mr p1 l1 l2 q1 q2 q3 q4 q5 q6 : Nat} {R1 R2 : Nat → Value} {cc u2 u3 u5 x8 x9 x10 x11 x12 x13 x14 x15 x16 : Int32} {o ca fl : Nat} {cn wp : Int32} (h_o : M.1 o = some (ob 11 [.ref ca, .int cn, .ref fl, .ref c, .int wp])) (h_c : M.1 c = some (ob 3 [.ref b, .ref q, .int u2, .int u3, .int (nI p1), .int u5, .ref fr, .ref mr, .int x8, .int x9, .int x10, .int x11, .int x12, .int x13, .int x14, .int x15, .int x16])) (h_b : M.1 b = some (ob 1 [.ref da])) (h_da : M.1 da = some (ar .byte n f)) (h_q : M.1 q = some (ob 7 [.int (nI N), .ref q1, .ref q2, .ref q3, .ref q4, .ref q5, .ref q6, .int cc])) (h_fr : M.1 fr = some (ro "ClassGate$Member" l1 R1)) (h_mr : M.1 mr = some (ro "ClassGate$Member" l2 R2)) (hn : n ≤ 65540) (hp1 : p1 + 8 ≤ n) : pt (mT g) 5 [.ref o, .int 4] M (fun v M' => (v = some (.int x11) ∧ M = M')) := by
  refine pt_in (b := mb_5 g) rfl (fun kf => ?_)
  show pl (mT g) kf (mb_5 g).2 (0, [(0, .ref o), (1, .int 4)], [], M) _
  refine ps_st (S' := (1, [(0, .ref o), (1, .int 4)], [.int 4], M)) rfl rfl rfl ?_
  refine ps_if (S1 := (10, [(0, .ref o), (1, .int 4)], [], M)) (S2 := (4, [(0, .ref o), (1, .int 4)], [], M)) rfl rfl rfl (fun c_1 => ?_) (fun c_1 => ?_)
  · exact absurd (of_decide_eq_true c_1) (by decide)
  refine ps_st (S' := (5, [(0, .ref o), (1, .int 4)], [.int 4], M)) rfl rfl rfl ?_
  refine ps_st (S' := (7, [(0, .ref o), (1, .int 4)], [.int 15, .int 4], M)) rfl rfl rfl ?_
  refine ps_if2 (S1 := (20, [(0, .ref o), (1, .int 4)], [], M)) (S2 := (10, [(0, .ref o), (1, .int 4)], [], M)) rfl rfl rfl (fun c_7 => ?_) (fun c_7 => ?_)
  rotate_left
  · exact absurd (by decide) (of_decide_eq_false c_7)
  refine ps_st (S' := (21, [(0, .ref o), (1, .int 4)], [.ref o], M)) rfl rfl rfl ?_
  refine ps_get (S' := (24, [(0, .ref o), (1, .int 4)], [.ref c], M)) rfl h_o rfl rfl ?_
  refine ps_st (S' := (31, [(0, .ref o), (1, .int 4)], [], M)) rfl rfl rfl ?_
  refine ps_st (S' := (32, [(0, .ref o), (1, .int 4)], [.ref o], M)) rfl rfl rfl ?_
  refine ps_get (S' := (35, [(0, .ref o), (1, .int 4)], [.ref c], M)) rfl h_o rfl rfl ?_
  refine ps_st (S' := (36, [(0, .ref o), (1, .int 4)], [.int 4, .ref c], M)) rfl rfl rfl ?_
  refine pl_call (a := [.ref c, .int 4]) (rest := []) rfl rfl rfl (dk_num4 (f := f) (n := n) (N := N) (q := q) (c := c) (b := b) (da := da) (fr := fr) (mr := mr) (p1 := p1) (l1 := l1) (l2 := l2) (q1 := q1) (q2 := q2) (q3 := q3) (q4 := q4) (q5 := q5) (q6 := q6) (R1 := R1) (R2 := R2) (cc := cc) (u2 := u2) (u3 := u3) (u5 := u5) (x8 := x8) (x9 := x9) (x10 := x10) (x11 := x11) (x12 := x12) (x13 := x13) (x14 := x14) (x15 := x15) (x16 := x16) h_c h_b h_da h_q h_fr h_mr (hn) (hp1)) (fun v1 M2 q3 => ?_)
  obtain ⟨rfl, rfl⟩ := q3
  show pl _ _ _ (39, [], [.int x11], M) _
  exact ps_reti rfl (⟨rfl, rfl⟩)
set_option maxHeartbeats 1000000 in
theorem dk_count_5 {g : xe_G} {M : mi_H} {f : Nat → Int32} {n N q c b da fr mr p1 l1 l2 q1 q2 q3 q4 q5 q6 : Nat} {R1 R2 : Nat → Value} {cc u2 u3 u5 x8 x9 x10 x11 x12 x13 x14 x15 x16 : Int32} {o ca fl : Nat} {cn wp : Int32} (h_o : M.1 o = some (ob 11 [.ref ca, .int cn, .ref fl, .ref c, .int wp])) (h_c : M.1 c = some (ob 3 [.ref b, .ref q, .int u2, .int u3, .int (nI p1), .int u5, .ref fr, .ref mr, .int x8, .int x9, .int x10, .int x11, .int x12, .int x13, .int x14, .int x15, .int x16])) (h_b : M.1 b = some (ob 1 [.ref da])) (h_da : M.1 da = some (ar .byte n f)) (h_q : M.1 q = some (ob 7 [.int (nI N), .ref q1, .ref q2, .ref q3, .ref q4, .ref q5, .ref q6, .int cc])) (h_fr : M.1 fr = some (ro "ClassGate$Member" l1 R1)) (h_mr : M.1 mr = some (ro "ClassGate$Member" l2 R2)) (hn : n ≤ 65540) (hp1 : p1 + 8 ≤ n) : pt (mT g) 5 [.ref o, .int 5] M (fun v M' => (v = some (.int x10) ∧ M = M')) := by
  refine pt_in (b := mb_5 g) rfl (fun kf => ?_)
  show pl (mT g) kf (mb_5 g).2 (0, [(0, .ref o), (1, .int 5)], [], M) _
  refine ps_st (S' := (1, [(0, .ref o), (1, .int 5)], [.int 5], M)) rfl rfl rfl ?_
  refine ps_if (S1 := (10, [(0, .ref o), (1, .int 5)], [], M)) (S2 := (4, [(0, .ref o), (1, .int 5)], [], M)) rfl rfl rfl (fun c_1 => ?_) (fun c_1 => ?_)
  · exact absurd (of_decide_eq_true c_1) (by decide)
  refine ps_st (S' := (5, [(0, .ref o), (1, .int 5)], [.int 5], M)) rfl rfl rfl ?_
  refine ps_st (S' := (7, [(0, .ref o), (1, .int 5)], [.int 15, .int 5], M)) rfl rfl rfl ?_
  refine ps_if2 (S1 := (20, [(0, .ref o), (1, .int 5)], [], M)) (S2 := (10, [(0, .ref o), (1, .int 5)], [], M)) rfl rfl rfl (fun c_7 => ?_) (fun c_7 => ?_)
  rotate_left
  · exact absurd (by decide) (of_decide_eq_false c_7)
  refine ps_st (S' := (21, [(0, .ref o), (1, .int 5)], [.ref o], M)) rfl rfl rfl ?_
  refine ps_get (S' := (24, [(0, .ref o), (1, .int 5)], [.ref c], M)) rfl h_o rfl rfl ?_
  refine ps_st (S' := (31, [(0, .ref o), (1, .int 5)], [], M)) rfl rfl rfl ?_
  refine ps_st (S' := (32, [(0, .ref o), (1, .int 5)], [.ref o], M)) rfl rfl rfl ?_
  refine ps_get (S' := (35, [(0, .ref o), (1, .int 5)], [.ref c], M)) rfl h_o rfl rfl ?_
  refine ps_st (S' := (36, [(0, .ref o), (1, .int 5)], [.int 5, .ref c], M)) rfl rfl rfl ?_
  refine pl_call (a := [.ref c, .int 5]) (rest := []) rfl rfl rfl (dk_num5 (f := f) (n := n) (N := N) (q := q) (c := c) (b := b) (da := da) (fr := fr) (mr := mr) (p1 := p1) (l1 := l1) (l2 := l2) (q1 := q1) (q2 := q2) (q3 := q3) (q4 := q4) (q5 := q5) (q6 := q6) (R1 := R1) (R2 := R2) (cc := cc) (u2 := u2) (u3 := u3) (u5 := u5) (x8 := x8) (x9 := x9) (x10 := x10) (x11 := x11) (x12 := x12) (x13 := x13) (x14 := x14) (x15 := x15) (x16 := x16) h_c h_b h_da h_q h_fr h_mr (hn) (hp1)) (fun v1 M2 q3 => ?_)
  obtain ⟨rfl, rfl⟩ := q3
  show pl _ _ _ (39, [], [.int x10], M) _
  exact ps_reti rfl (⟨rfl, rfl⟩)
set_option maxHeartbeats 1000000 in
theorem dk_count_6 {g : xe_G} {M : mi_H} {f : Nat → Int32} {n N q c b da fr mr p1 l1 l2 q1 q2 q3 q4 q5 q6 : Nat} {R1 R2 : Nat → Value} {cc u2 u3 u5 x8 x9 x10 x11 x12 x13 x14 x15 x16 : Int32} {o ca fl : Nat} {cn wp : Int32} (h_o : M.1 o = some (ob 11 [.ref ca, .int cn, .ref fl, .ref c, .int wp])) (h_c : M.1 c = some (ob 3 [.ref b, .ref q, .int u2, .int u3, .int (nI p1), .int u5, .ref fr, .ref mr, .int x8, .int x9, .int x10, .int x11, .int x12, .int x13, .int x14, .int x15, .int x16])) (h_b : M.1 b = some (ob 1 [.ref da])) (h_da : M.1 da = some (ar .byte n f)) (h_q : M.1 q = some (ob 7 [.int (nI N), .ref q1, .ref q2, .ref q3, .ref q4, .ref q5, .ref q6, .int cc])) (h_fr : M.1 fr = some (ro "ClassGate$Member" l1 R1)) (h_mr : M.1 mr = some (ro "ClassGate$Member" l2 R2)) (hn : n ≤ 65540) (hp1 : p1 + 8 ≤ n) : pt (mT g) 5 [.ref o, .int 6] M (fun v M' => (v = some (.int (nI (by2 f p1))) ∧ M = M')) := by
  refine pt_in (b := mb_5 g) rfl (fun kf => ?_)
  show pl (mT g) kf (mb_5 g).2 (0, [(0, .ref o), (1, .int 6)], [], M) _
  refine ps_st (S' := (1, [(0, .ref o), (1, .int 6)], [.int 6], M)) rfl rfl rfl ?_
  refine ps_if (S1 := (10, [(0, .ref o), (1, .int 6)], [], M)) (S2 := (4, [(0, .ref o), (1, .int 6)], [], M)) rfl rfl rfl (fun c_1 => ?_) (fun c_1 => ?_)
  · exact absurd (of_decide_eq_true c_1) (by decide)
  refine ps_st (S' := (5, [(0, .ref o), (1, .int 6)], [.int 6], M)) rfl rfl rfl ?_
  refine ps_st (S' := (7, [(0, .ref o), (1, .int 6)], [.int 15, .int 6], M)) rfl rfl rfl ?_
  refine ps_if2 (S1 := (20, [(0, .ref o), (1, .int 6)], [], M)) (S2 := (10, [(0, .ref o), (1, .int 6)], [], M)) rfl rfl rfl (fun c_7 => ?_) (fun c_7 => ?_)
  rotate_left
  · exact absurd (by decide) (of_decide_eq_false c_7)
  refine ps_st (S' := (21, [(0, .ref o), (1, .int 6)], [.ref o], M)) rfl rfl rfl ?_
  refine ps_get (S' := (24, [(0, .ref o), (1, .int 6)], [.ref c], M)) rfl h_o rfl rfl ?_
  refine ps_st (S' := (31, [(0, .ref o), (1, .int 6)], [], M)) rfl rfl rfl ?_
  refine ps_st (S' := (32, [(0, .ref o), (1, .int 6)], [.ref o], M)) rfl rfl rfl ?_
  refine ps_get (S' := (35, [(0, .ref o), (1, .int 6)], [.ref c], M)) rfl h_o rfl rfl ?_
  refine ps_st (S' := (36, [(0, .ref o), (1, .int 6)], [.int 6, .ref c], M)) rfl rfl rfl ?_
  refine pl_call (a := [.ref c, .int 6]) (rest := []) rfl rfl rfl (dk_num6 (f := f) (n := n) (N := N) (q := q) (c := c) (b := b) (da := da) (fr := fr) (mr := mr) (p1 := p1) (l1 := l1) (l2 := l2) (q1 := q1) (q2 := q2) (q3 := q3) (q4 := q4) (q5 := q5) (q6 := q6) (R1 := R1) (R2 := R2) (cc := cc) (u2 := u2) (u3 := u3) (u5 := u5) (x8 := x8) (x9 := x9) (x10 := x10) (x11 := x11) (x12 := x12) (x13 := x13) (x14 := x14) (x15 := x15) (x16 := x16) h_c h_b h_da h_q h_fr h_mr (hn) (hp1)) (fun v1 M2 q3 => ?_)
  obtain ⟨rfl, rfl⟩ := q3
  show pl _ _ _ (39, [], [.int (nI (by2 f p1))], M) _
  exact ps_reti rfl (⟨rfl, rfl⟩)
set_option maxHeartbeats 1000000 in
theorem dk_count_7 {g : xe_G} {M : mi_H} {f : Nat → Int32} {n N q c b da fr mr p1 l1 l2 q1 q2 q3 q4 q5 q6 : Nat} {R1 R2 : Nat → Value} {cc u2 u3 u5 x8 x9 x10 x11 x12 x13 x14 x15 x16 : Int32} {o ca fl : Nat} {cn wp : Int32} (h_o : M.1 o = some (ob 11 [.ref ca, .int cn, .ref fl, .ref c, .int wp])) (h_c : M.1 c = some (ob 3 [.ref b, .ref q, .int u2, .int u3, .int (nI p1), .int u5, .ref fr, .ref mr, .int x8, .int x9, .int x10, .int x11, .int x12, .int x13, .int x14, .int x15, .int x16])) (h_b : M.1 b = some (ob 1 [.ref da])) (h_da : M.1 da = some (ar .byte n f)) (h_q : M.1 q = some (ob 7 [.int (nI N), .ref q1, .ref q2, .ref q3, .ref q4, .ref q5, .ref q6, .int cc])) (h_fr : M.1 fr = some (ro "ClassGate$Member" l1 R1)) (h_mr : M.1 mr = some (ro "ClassGate$Member" l2 R2)) (hn : n ≤ 65540) (hp1 : p1 + 8 ≤ n) : pt (mT g) 5 [.ref o, .int 7] M (fun v M' => (v = some (.int u3) ∧ M = M')) := by
  refine pt_in (b := mb_5 g) rfl (fun kf => ?_)
  show pl (mT g) kf (mb_5 g).2 (0, [(0, .ref o), (1, .int 7)], [], M) _
  refine ps_st (S' := (1, [(0, .ref o), (1, .int 7)], [.int 7], M)) rfl rfl rfl ?_
  refine ps_if (S1 := (10, [(0, .ref o), (1, .int 7)], [], M)) (S2 := (4, [(0, .ref o), (1, .int 7)], [], M)) rfl rfl rfl (fun c_1 => ?_) (fun c_1 => ?_)
  · exact absurd (of_decide_eq_true c_1) (by decide)
  refine ps_st (S' := (5, [(0, .ref o), (1, .int 7)], [.int 7], M)) rfl rfl rfl ?_
  refine ps_st (S' := (7, [(0, .ref o), (1, .int 7)], [.int 15, .int 7], M)) rfl rfl rfl ?_
  refine ps_if2 (S1 := (20, [(0, .ref o), (1, .int 7)], [], M)) (S2 := (10, [(0, .ref o), (1, .int 7)], [], M)) rfl rfl rfl (fun c_7 => ?_) (fun c_7 => ?_)
  rotate_left
  · exact absurd (by decide) (of_decide_eq_false c_7)
  refine ps_st (S' := (21, [(0, .ref o), (1, .int 7)], [.ref o], M)) rfl rfl rfl ?_
  refine ps_get (S' := (24, [(0, .ref o), (1, .int 7)], [.ref c], M)) rfl h_o rfl rfl ?_
  refine ps_st (S' := (31, [(0, .ref o), (1, .int 7)], [], M)) rfl rfl rfl ?_
  refine ps_st (S' := (32, [(0, .ref o), (1, .int 7)], [.ref o], M)) rfl rfl rfl ?_
  refine ps_get (S' := (35, [(0, .ref o), (1, .int 7)], [.ref c], M)) rfl h_o rfl rfl ?_
  refine ps_st (S' := (36, [(0, .ref o), (1, .int 7)], [.int 7, .ref c], M)) rfl rfl rfl ?_
  refine pl_call (a := [.ref c, .int 7]) (rest := []) rfl rfl rfl (dk_num7 (f := f) (n := n) (N := N) (q := q) (c := c) (b := b) (da := da) (fr := fr) (mr := mr) (p1 := p1) (l1 := l1) (l2 := l2) (q1 := q1) (q2 := q2) (q3 := q3) (q4 := q4) (q5 := q5) (q6 := q6) (R1 := R1) (R2 := R2) (cc := cc) (u2 := u2) (u3 := u3) (u5 := u5) (x8 := x8) (x9 := x9) (x10 := x10) (x11 := x11) (x12 := x12) (x13 := x13) (x14 := x14) (x15 := x15) (x16 := x16) h_c h_b h_da h_q h_fr h_mr (hn) (hp1)) (fun v1 M2 q3 => ?_)
  obtain ⟨rfl, rfl⟩ := q3
  show pl _ _ _ (39, [], [.int u3], M) _
  exact ps_reti rfl (⟨rfl, rfl⟩)
set_option maxHeartbeats 1000000 in
theorem dk_count_8 {g : xe_G} {M : mi_H} {f : Nat → Int32} {n N q c b da fr mr p1 l1 l2 q1 q2 q3 q4 q5 q6 : Nat} {R1 R2 : Nat → Value} {cc u2 u3 u5 x8 x9 x10 x11 x12 x13 x14 x15 x16 : Int32} {o ca fl : Nat} {cn wp : Int32} (h_o : M.1 o = some (ob 11 [.ref ca, .int cn, .ref fl, .ref c, .int wp])) (h_c : M.1 c = some (ob 3 [.ref b, .ref q, .int u2, .int u3, .int (nI p1), .int u5, .ref fr, .ref mr, .int x8, .int x9, .int x10, .int x11, .int x12, .int x13, .int x14, .int x15, .int x16])) (h_b : M.1 b = some (ob 1 [.ref da])) (h_da : M.1 da = some (ar .byte n f)) (h_q : M.1 q = some (ob 7 [.int (nI N), .ref q1, .ref q2, .ref q3, .ref q4, .ref q5, .ref q6, .int cc])) (h_fr : M.1 fr = some (ro "ClassGate$Member" l1 R1)) (h_mr : M.1 mr = some (ro "ClassGate$Member" l2 R2)) (hn : n ≤ 65540) (hp1 : p1 + 8 ≤ n) : pt (mT g) 5 [.ref o, .int 8] M (fun v M' => (v = some (.int u2) ∧ M = M')) := by
  refine pt_in (b := mb_5 g) rfl (fun kf => ?_)
  show pl (mT g) kf (mb_5 g).2 (0, [(0, .ref o), (1, .int 8)], [], M) _
  refine ps_st (S' := (1, [(0, .ref o), (1, .int 8)], [.int 8], M)) rfl rfl rfl ?_
  refine ps_if (S1 := (10, [(0, .ref o), (1, .int 8)], [], M)) (S2 := (4, [(0, .ref o), (1, .int 8)], [], M)) rfl rfl rfl (fun c_1 => ?_) (fun c_1 => ?_)
  · exact absurd (of_decide_eq_true c_1) (by decide)
  refine ps_st (S' := (5, [(0, .ref o), (1, .int 8)], [.int 8], M)) rfl rfl rfl ?_
  refine ps_st (S' := (7, [(0, .ref o), (1, .int 8)], [.int 15, .int 8], M)) rfl rfl rfl ?_
  refine ps_if2 (S1 := (20, [(0, .ref o), (1, .int 8)], [], M)) (S2 := (10, [(0, .ref o), (1, .int 8)], [], M)) rfl rfl rfl (fun c_7 => ?_) (fun c_7 => ?_)
  rotate_left
  · exact absurd (by decide) (of_decide_eq_false c_7)
  refine ps_st (S' := (21, [(0, .ref o), (1, .int 8)], [.ref o], M)) rfl rfl rfl ?_
  refine ps_get (S' := (24, [(0, .ref o), (1, .int 8)], [.ref c], M)) rfl h_o rfl rfl ?_
  refine ps_st (S' := (31, [(0, .ref o), (1, .int 8)], [], M)) rfl rfl rfl ?_
  refine ps_st (S' := (32, [(0, .ref o), (1, .int 8)], [.ref o], M)) rfl rfl rfl ?_
  refine ps_get (S' := (35, [(0, .ref o), (1, .int 8)], [.ref c], M)) rfl h_o rfl rfl ?_
  refine ps_st (S' := (36, [(0, .ref o), (1, .int 8)], [.int 8, .ref c], M)) rfl rfl rfl ?_
  refine pl_call (a := [.ref c, .int 8]) (rest := []) rfl rfl rfl (dk_num8 (f := f) (n := n) (N := N) (q := q) (c := c) (b := b) (da := da) (fr := fr) (mr := mr) (p1 := p1) (l1 := l1) (l2 := l2) (q1 := q1) (q2 := q2) (q3 := q3) (q4 := q4) (q5 := q5) (q6 := q6) (R1 := R1) (R2 := R2) (cc := cc) (u2 := u2) (u3 := u3) (u5 := u5) (x8 := x8) (x9 := x9) (x10 := x10) (x11 := x11) (x12 := x12) (x13 := x13) (x14 := x14) (x15 := x15) (x16 := x16) h_c h_b h_da h_q h_fr h_mr (hn) (hp1)) (fun v1 M2 q3 => ?_)
  obtain ⟨rfl, rfl⟩ := q3
  show pl _ _ _ (39, [], [.int u2], M) _
  exact ps_reti rfl (⟨rfl, rfl⟩)
set_option maxHeartbeats 1000000 in
theorem dk_count_9 {g : xe_G} {M : mi_H} {f : Nat → Int32} {n N q c b da fr mr p1 l1 l2 q1 q2 q3 q4 q5 q6 : Nat} {R1 R2 : Nat → Value} {cc u2 u3 u5 x8 x9 x10 x11 x12 x13 x14 x15 x16 : Int32} {o ca fl : Nat} {cn wp : Int32} (h_o : M.1 o = some (ob 11 [.ref ca, .int cn, .ref fl, .ref c, .int wp])) (h_c : M.1 c = some (ob 3 [.ref b, .ref q, .int u2, .int u3, .int (nI p1), .int u5, .ref fr, .ref mr, .int x8, .int x9, .int x10, .int x11, .int x12, .int x13, .int x14, .int x15, .int x16])) (h_b : M.1 b = some (ob 1 [.ref da])) (h_da : M.1 da = some (ar .byte n f)) (h_q : M.1 q = some (ob 7 [.int (nI N), .ref q1, .ref q2, .ref q3, .ref q4, .ref q5, .ref q6, .int cc])) (h_fr : M.1 fr = some (ro "ClassGate$Member" l1 R1)) (h_mr : M.1 mr = some (ro "ClassGate$Member" l2 R2)) (hn : n ≤ 65540) (hp1 : p1 + 8 ≤ n) : pt (mT g) 5 [.ref o, .int 9] M (fun v M' => (v = some (.int (nI (by2 f (p1 + 2)))) ∧ M = M')) := by
  refine pt_in (b := mb_5 g) rfl (fun kf => ?_)
  show pl (mT g) kf (mb_5 g).2 (0, [(0, .ref o), (1, .int 9)], [], M) _
  refine ps_st (S' := (1, [(0, .ref o), (1, .int 9)], [.int 9], M)) rfl rfl rfl ?_
  refine ps_if (S1 := (10, [(0, .ref o), (1, .int 9)], [], M)) (S2 := (4, [(0, .ref o), (1, .int 9)], [], M)) rfl rfl rfl (fun c_1 => ?_) (fun c_1 => ?_)
  · exact absurd (of_decide_eq_true c_1) (by decide)
  refine ps_st (S' := (5, [(0, .ref o), (1, .int 9)], [.int 9], M)) rfl rfl rfl ?_
  refine ps_st (S' := (7, [(0, .ref o), (1, .int 9)], [.int 15, .int 9], M)) rfl rfl rfl ?_
  refine ps_if2 (S1 := (20, [(0, .ref o), (1, .int 9)], [], M)) (S2 := (10, [(0, .ref o), (1, .int 9)], [], M)) rfl rfl rfl (fun c_7 => ?_) (fun c_7 => ?_)
  rotate_left
  · exact absurd (by decide) (of_decide_eq_false c_7)
  refine ps_st (S' := (21, [(0, .ref o), (1, .int 9)], [.ref o], M)) rfl rfl rfl ?_
  refine ps_get (S' := (24, [(0, .ref o), (1, .int 9)], [.ref c], M)) rfl h_o rfl rfl ?_
  refine ps_st (S' := (31, [(0, .ref o), (1, .int 9)], [], M)) rfl rfl rfl ?_
  refine ps_st (S' := (32, [(0, .ref o), (1, .int 9)], [.ref o], M)) rfl rfl rfl ?_
  refine ps_get (S' := (35, [(0, .ref o), (1, .int 9)], [.ref c], M)) rfl h_o rfl rfl ?_
  refine ps_st (S' := (36, [(0, .ref o), (1, .int 9)], [.int 9, .ref c], M)) rfl rfl rfl ?_
  refine pl_call (a := [.ref c, .int 9]) (rest := []) rfl rfl rfl (dk_num9 (f := f) (n := n) (N := N) (q := q) (c := c) (b := b) (da := da) (fr := fr) (mr := mr) (p1 := p1) (l1 := l1) (l2 := l2) (q1 := q1) (q2 := q2) (q3 := q3) (q4 := q4) (q5 := q5) (q6 := q6) (R1 := R1) (R2 := R2) (cc := cc) (u2 := u2) (u3 := u3) (u5 := u5) (x8 := x8) (x9 := x9) (x10 := x10) (x11 := x11) (x12 := x12) (x13 := x13) (x14 := x14) (x15 := x15) (x16 := x16) h_c h_b h_da h_q h_fr h_mr (hn) (hp1)) (fun v1 M2 q3 => ?_)
  obtain ⟨rfl, rfl⟩ := q3
  show pl _ _ _ (39, [], [.int (nI (by2 f (p1 + 2)))], M) _
  exact ps_reti rfl (⟨rfl, rfl⟩)
set_option maxHeartbeats 1000000 in
theorem dk_count_10 {g : xe_G} {M : mi_H} {f : Nat → Int32} {n N q c b da fr mr p1 l1 l2 q1 q2 q3 q4 q5 q6 : Nat} {R1 R2 : Nat → Value} {cc u2 u3 u5 x8 x9 x10 x11 x12 x13 x14 x15 x16 : Int32} {o ca fl : Nat} {cn wp : Int32} (h_o : M.1 o = some (ob 11 [.ref ca, .int cn, .ref fl, .ref c, .int wp])) (h_c : M.1 c = some (ob 3 [.ref b, .ref q, .int u2, .int u3, .int (nI p1), .int u5, .ref fr, .ref mr, .int x8, .int x9, .int x10, .int x11, .int x12, .int x13, .int x14, .int x15, .int x16])) (h_b : M.1 b = some (ob 1 [.ref da])) (h_da : M.1 da = some (ar .byte n f)) (h_q : M.1 q = some (ob 7 [.int (nI N), .ref q1, .ref q2, .ref q3, .ref q4, .ref q5, .ref q6, .int cc])) (h_fr : M.1 fr = some (ro "ClassGate$Member" l1 R1)) (h_mr : M.1 mr = some (ro "ClassGate$Member" l2 R2)) (hn : n ≤ 65540) (hp1 : p1 + 8 ≤ n) : pt (mT g) 5 [.ref o, .int 10] M (fun v M' => (v = some (.int (nI (by2 f (p1 + 4)))) ∧ M = M')) := by
  refine pt_in (b := mb_5 g) rfl (fun kf => ?_)
  show pl (mT g) kf (mb_5 g).2 (0, [(0, .ref o), (1, .int 10)], [], M) _
  refine ps_st (S' := (1, [(0, .ref o), (1, .int 10)], [.int 10], M)) rfl rfl rfl ?_
  refine ps_if (S1 := (10, [(0, .ref o), (1, .int 10)], [], M)) (S2 := (4, [(0, .ref o), (1, .int 10)], [], M)) rfl rfl rfl (fun c_1 => ?_) (fun c_1 => ?_)
  · exact absurd (of_decide_eq_true c_1) (by decide)
  refine ps_st (S' := (5, [(0, .ref o), (1, .int 10)], [.int 10], M)) rfl rfl rfl ?_
  refine ps_st (S' := (7, [(0, .ref o), (1, .int 10)], [.int 15, .int 10], M)) rfl rfl rfl ?_
  refine ps_if2 (S1 := (20, [(0, .ref o), (1, .int 10)], [], M)) (S2 := (10, [(0, .ref o), (1, .int 10)], [], M)) rfl rfl rfl (fun c_7 => ?_) (fun c_7 => ?_)
  rotate_left
  · exact absurd (by decide) (of_decide_eq_false c_7)
  refine ps_st (S' := (21, [(0, .ref o), (1, .int 10)], [.ref o], M)) rfl rfl rfl ?_
  refine ps_get (S' := (24, [(0, .ref o), (1, .int 10)], [.ref c], M)) rfl h_o rfl rfl ?_
  refine ps_st (S' := (31, [(0, .ref o), (1, .int 10)], [], M)) rfl rfl rfl ?_
  refine ps_st (S' := (32, [(0, .ref o), (1, .int 10)], [.ref o], M)) rfl rfl rfl ?_
  refine ps_get (S' := (35, [(0, .ref o), (1, .int 10)], [.ref c], M)) rfl h_o rfl rfl ?_
  refine ps_st (S' := (36, [(0, .ref o), (1, .int 10)], [.int 10, .ref c], M)) rfl rfl rfl ?_
  refine pl_call (a := [.ref c, .int 10]) (rest := []) rfl rfl rfl (dk_num10 (f := f) (n := n) (N := N) (q := q) (c := c) (b := b) (da := da) (fr := fr) (mr := mr) (p1 := p1) (l1 := l1) (l2 := l2) (q1 := q1) (q2 := q2) (q3 := q3) (q4 := q4) (q5 := q5) (q6 := q6) (R1 := R1) (R2 := R2) (cc := cc) (u2 := u2) (u3 := u3) (u5 := u5) (x8 := x8) (x9 := x9) (x10 := x10) (x11 := x11) (x12 := x12) (x13 := x13) (x14 := x14) (x15 := x15) (x16 := x16) h_c h_b h_da h_q h_fr h_mr (hn) (hp1)) (fun v1 M2 q3 => ?_)
  obtain ⟨rfl, rfl⟩ := q3
  show pl _ _ _ (39, [], [.int (nI (by2 f (p1 + 4)))], M) _
  exact ps_reti rfl (⟨rfl, rfl⟩)
set_option maxHeartbeats 1000000 in
theorem dk_count_11 {g : xe_G} {M : mi_H} {f : Nat → Int32} {n N q c b da fr mr p1 l1 l2 q1 q2 q3 q4 q5 q6 : Nat} {R1 R2 : Nat → Value} {cc u2 u3 u5 x8 x9 x10 x11 x12 x13 x14 x15 x16 : Int32} {o ca fl : Nat} {cn wp : Int32} (h_o : M.1 o = some (ob 11 [.ref ca, .int cn, .ref fl, .ref c, .int wp])) (h_c : M.1 c = some (ob 3 [.ref b, .ref q, .int u2, .int u3, .int (nI p1), .int u5, .ref fr, .ref mr, .int x8, .int x9, .int x10, .int x11, .int x12, .int x13, .int x14, .int x15, .int x16])) (h_b : M.1 b = some (ob 1 [.ref da])) (h_da : M.1 da = some (ar .byte n f)) (h_q : M.1 q = some (ob 7 [.int (nI N), .ref q1, .ref q2, .ref q3, .ref q4, .ref q5, .ref q6, .int cc])) (h_fr : M.1 fr = some (ro "ClassGate$Member" l1 R1)) (h_mr : M.1 mr = some (ro "ClassGate$Member" l2 R2)) (hn : n ≤ 65540) (hp1 : p1 + 8 ≤ n) : pt (mT g) 5 [.ref o, .int 11] M (fun v M' => (v = some (.int cc) ∧ M = M')) := by
  refine pt_in (b := mb_5 g) rfl (fun kf => ?_)
  show pl (mT g) kf (mb_5 g).2 (0, [(0, .ref o), (1, .int 11)], [], M) _
  refine ps_st (S' := (1, [(0, .ref o), (1, .int 11)], [.int 11], M)) rfl rfl rfl ?_
  refine ps_if (S1 := (10, [(0, .ref o), (1, .int 11)], [], M)) (S2 := (4, [(0, .ref o), (1, .int 11)], [], M)) rfl rfl rfl (fun c_1 => ?_) (fun c_1 => ?_)
  · exact absurd (of_decide_eq_true c_1) (by decide)
  refine ps_st (S' := (5, [(0, .ref o), (1, .int 11)], [.int 11], M)) rfl rfl rfl ?_
  refine ps_st (S' := (7, [(0, .ref o), (1, .int 11)], [.int 15, .int 11], M)) rfl rfl rfl ?_
  refine ps_if2 (S1 := (20, [(0, .ref o), (1, .int 11)], [], M)) (S2 := (10, [(0, .ref o), (1, .int 11)], [], M)) rfl rfl rfl (fun c_7 => ?_) (fun c_7 => ?_)
  rotate_left
  · exact absurd (by decide) (of_decide_eq_false c_7)
  refine ps_st (S' := (21, [(0, .ref o), (1, .int 11)], [.ref o], M)) rfl rfl rfl ?_
  refine ps_get (S' := (24, [(0, .ref o), (1, .int 11)], [.ref c], M)) rfl h_o rfl rfl ?_
  refine ps_st (S' := (31, [(0, .ref o), (1, .int 11)], [], M)) rfl rfl rfl ?_
  refine ps_st (S' := (32, [(0, .ref o), (1, .int 11)], [.ref o], M)) rfl rfl rfl ?_
  refine ps_get (S' := (35, [(0, .ref o), (1, .int 11)], [.ref c], M)) rfl h_o rfl rfl ?_
  refine ps_st (S' := (36, [(0, .ref o), (1, .int 11)], [.int 11, .ref c], M)) rfl rfl rfl ?_
  refine pl_call (a := [.ref c, .int 11]) (rest := []) rfl rfl rfl (dk_num11 (f := f) (n := n) (N := N) (q := q) (c := c) (b := b) (da := da) (fr := fr) (mr := mr) (p1 := p1) (l1 := l1) (l2 := l2) (q1 := q1) (q2 := q2) (q3 := q3) (q4 := q4) (q5 := q5) (q6 := q6) (R1 := R1) (R2 := R2) (cc := cc) (u2 := u2) (u3 := u3) (u5 := u5) (x8 := x8) (x9 := x9) (x10 := x10) (x11 := x11) (x12 := x12) (x13 := x13) (x14 := x14) (x15 := x15) (x16 := x16) h_c h_b h_da h_q h_fr h_mr (hn) (hp1)) (fun v1 M2 q3 => ?_)
  obtain ⟨rfl, rfl⟩ := q3
  show pl _ _ _ (39, [], [.int cc], M) _
  exact ps_reti rfl (⟨rfl, rfl⟩)
set_option maxHeartbeats 1000000 in
theorem dk_count_12 {g : xe_G} {M : mi_H} {f : Nat → Int32} {n N q c b da fr mr p1 l1 l2 q1 q2 q3 q4 q5 q6 : Nat} {R1 R2 : Nat → Value} {cc u2 u3 u5 x8 x9 x10 x11 x12 x13 x14 x15 x16 : Int32} {o ca fl : Nat} {cn wp : Int32} (h_o : M.1 o = some (ob 11 [.ref ca, .int cn, .ref fl, .ref c, .int wp])) (h_c : M.1 c = some (ob 3 [.ref b, .ref q, .int u2, .int u3, .int (nI p1), .int u5, .ref fr, .ref mr, .int x8, .int x9, .int x10, .int x11, .int x12, .int x13, .int x14, .int x15, .int x16])) (h_b : M.1 b = some (ob 1 [.ref da])) (h_da : M.1 da = some (ar .byte n f)) (h_q : M.1 q = some (ob 7 [.int (nI N), .ref q1, .ref q2, .ref q3, .ref q4, .ref q5, .ref q6, .int cc])) (h_fr : M.1 fr = some (ro "ClassGate$Member" l1 R1)) (h_mr : M.1 mr = some (ro "ClassGate$Member" l2 R2)) (hn : n ≤ 65540) (hp1 : p1 + 8 ≤ n) : pt (mT g) 5 [.ref o, .int 12] M (fun v M' => (v = some (.int x13) ∧ M = M')) := by
  refine pt_in (b := mb_5 g) rfl (fun kf => ?_)
  show pl (mT g) kf (mb_5 g).2 (0, [(0, .ref o), (1, .int 12)], [], M) _
  refine ps_st (S' := (1, [(0, .ref o), (1, .int 12)], [.int 12], M)) rfl rfl rfl ?_
  refine ps_if (S1 := (10, [(0, .ref o), (1, .int 12)], [], M)) (S2 := (4, [(0, .ref o), (1, .int 12)], [], M)) rfl rfl rfl (fun c_1 => ?_) (fun c_1 => ?_)
  · exact absurd (of_decide_eq_true c_1) (by decide)
  refine ps_st (S' := (5, [(0, .ref o), (1, .int 12)], [.int 12], M)) rfl rfl rfl ?_
  refine ps_st (S' := (7, [(0, .ref o), (1, .int 12)], [.int 15, .int 12], M)) rfl rfl rfl ?_
  refine ps_if2 (S1 := (20, [(0, .ref o), (1, .int 12)], [], M)) (S2 := (10, [(0, .ref o), (1, .int 12)], [], M)) rfl rfl rfl (fun c_7 => ?_) (fun c_7 => ?_)
  rotate_left
  · exact absurd (by decide) (of_decide_eq_false c_7)
  refine ps_st (S' := (21, [(0, .ref o), (1, .int 12)], [.ref o], M)) rfl rfl rfl ?_
  refine ps_get (S' := (24, [(0, .ref o), (1, .int 12)], [.ref c], M)) rfl h_o rfl rfl ?_
  refine ps_st (S' := (31, [(0, .ref o), (1, .int 12)], [], M)) rfl rfl rfl ?_
  refine ps_st (S' := (32, [(0, .ref o), (1, .int 12)], [.ref o], M)) rfl rfl rfl ?_
  refine ps_get (S' := (35, [(0, .ref o), (1, .int 12)], [.ref c], M)) rfl h_o rfl rfl ?_
  refine ps_st (S' := (36, [(0, .ref o), (1, .int 12)], [.int 12, .ref c], M)) rfl rfl rfl ?_
  refine pl_call (a := [.ref c, .int 12]) (rest := []) rfl rfl rfl (dk_num12 (f := f) (n := n) (N := N) (q := q) (c := c) (b := b) (da := da) (fr := fr) (mr := mr) (p1 := p1) (l1 := l1) (l2 := l2) (q1 := q1) (q2 := q2) (q3 := q3) (q4 := q4) (q5 := q5) (q6 := q6) (R1 := R1) (R2 := R2) (cc := cc) (u2 := u2) (u3 := u3) (u5 := u5) (x8 := x8) (x9 := x9) (x10 := x10) (x11 := x11) (x12 := x12) (x13 := x13) (x14 := x14) (x15 := x15) (x16 := x16) h_c h_b h_da h_q h_fr h_mr (hn) (hp1)) (fun v1 M2 q3 => ?_)
  obtain ⟨rfl, rfl⟩ := q3
  show pl _ _ _ (39, [], [.int x13], M) _
  exact ps_reti rfl (⟨rfl, rfl⟩)
set_option maxHeartbeats 1000000 in
theorem dk_count_13 {g : xe_G} {M : mi_H} {f : Nat → Int32} {n N q c b da fr mr p1 l1 l2 q1 q2 q3 q4 q5 q6 : Nat} {R1 R2 : Nat → Value} {cc u2 u3 u5 x8 x9 x10 x11 x12 x13 x14 x15 x16 : Int32} {o ca fl : Nat} {cn wp : Int32} (h_o : M.1 o = some (ob 11 [.ref ca, .int cn, .ref fl, .ref c, .int wp])) (h_c : M.1 c = some (ob 3 [.ref b, .ref q, .int u2, .int u3, .int (nI p1), .int u5, .ref fr, .ref mr, .int x8, .int x9, .int x10, .int x11, .int x12, .int x13, .int x14, .int x15, .int x16])) (h_b : M.1 b = some (ob 1 [.ref da])) (h_da : M.1 da = some (ar .byte n f)) (h_q : M.1 q = some (ob 7 [.int (nI N), .ref q1, .ref q2, .ref q3, .ref q4, .ref q5, .ref q6, .int cc])) (h_fr : M.1 fr = some (ro "ClassGate$Member" l1 R1)) (h_mr : M.1 mr = some (ro "ClassGate$Member" l2 R2)) (hn : n ≤ 65540) (hp1 : p1 + 8 ≤ n) : pt (mT g) 5 [.ref o, .int 13] M (fun v M' => (v = some (.int x14) ∧ M = M')) := by
  refine pt_in (b := mb_5 g) rfl (fun kf => ?_)
  show pl (mT g) kf (mb_5 g).2 (0, [(0, .ref o), (1, .int 13)], [], M) _
  refine ps_st (S' := (1, [(0, .ref o), (1, .int 13)], [.int 13], M)) rfl rfl rfl ?_
  refine ps_if (S1 := (10, [(0, .ref o), (1, .int 13)], [], M)) (S2 := (4, [(0, .ref o), (1, .int 13)], [], M)) rfl rfl rfl (fun c_1 => ?_) (fun c_1 => ?_)
  · exact absurd (of_decide_eq_true c_1) (by decide)
  refine ps_st (S' := (5, [(0, .ref o), (1, .int 13)], [.int 13], M)) rfl rfl rfl ?_
  refine ps_st (S' := (7, [(0, .ref o), (1, .int 13)], [.int 15, .int 13], M)) rfl rfl rfl ?_
  refine ps_if2 (S1 := (20, [(0, .ref o), (1, .int 13)], [], M)) (S2 := (10, [(0, .ref o), (1, .int 13)], [], M)) rfl rfl rfl (fun c_7 => ?_) (fun c_7 => ?_)
  rotate_left
  · exact absurd (by decide) (of_decide_eq_false c_7)
  refine ps_st (S' := (21, [(0, .ref o), (1, .int 13)], [.ref o], M)) rfl rfl rfl ?_
  refine ps_get (S' := (24, [(0, .ref o), (1, .int 13)], [.ref c], M)) rfl h_o rfl rfl ?_
  refine ps_st (S' := (31, [(0, .ref o), (1, .int 13)], [], M)) rfl rfl rfl ?_
  refine ps_st (S' := (32, [(0, .ref o), (1, .int 13)], [.ref o], M)) rfl rfl rfl ?_
  refine ps_get (S' := (35, [(0, .ref o), (1, .int 13)], [.ref c], M)) rfl h_o rfl rfl ?_
  refine ps_st (S' := (36, [(0, .ref o), (1, .int 13)], [.int 13, .ref c], M)) rfl rfl rfl ?_
  refine pl_call (a := [.ref c, .int 13]) (rest := []) rfl rfl rfl (dk_num13 (f := f) (n := n) (N := N) (q := q) (c := c) (b := b) (da := da) (fr := fr) (mr := mr) (p1 := p1) (l1 := l1) (l2 := l2) (q1 := q1) (q2 := q2) (q3 := q3) (q4 := q4) (q5 := q5) (q6 := q6) (R1 := R1) (R2 := R2) (cc := cc) (u2 := u2) (u3 := u3) (u5 := u5) (x8 := x8) (x9 := x9) (x10 := x10) (x11 := x11) (x12 := x12) (x13 := x13) (x14 := x14) (x15 := x15) (x16 := x16) h_c h_b h_da h_q h_fr h_mr (hn) (hp1)) (fun v1 M2 q3 => ?_)
  obtain ⟨rfl, rfl⟩ := q3
  show pl _ _ _ (39, [], [.int x14], M) _
  exact ps_reti rfl (⟨rfl, rfl⟩)
set_option maxHeartbeats 1000000 in
theorem dk_count_14 {g : xe_G} {M : mi_H} {f : Nat → Int32} {n N q c b da fr mr p1 l1 l2 q1 q2 q3 q4 q5 q6 : Nat} {R1 R2 : Nat → Value} {cc u2 u3 u5 x8 x9 x10 x11 x12 x13 x14 x15 x16 : Int32} {o ca fl : Nat} {cn wp : Int32} (h_o : M.1 o = some (ob 11 [.ref ca, .int cn, .ref fl, .ref c, .int wp])) (h_c : M.1 c = some (ob 3 [.ref b, .ref q, .int u2, .int u3, .int (nI p1), .int u5, .ref fr, .ref mr, .int x8, .int x9, .int x10, .int x11, .int x12, .int x13, .int x14, .int x15, .int x16])) (h_b : M.1 b = some (ob 1 [.ref da])) (h_da : M.1 da = some (ar .byte n f)) (h_q : M.1 q = some (ob 7 [.int (nI N), .ref q1, .ref q2, .ref q3, .ref q4, .ref q5, .ref q6, .int cc])) (h_fr : M.1 fr = some (ro "ClassGate$Member" l1 R1)) (h_mr : M.1 mr = some (ro "ClassGate$Member" l2 R2)) (hn : n ≤ 65540) (hp1 : p1 + 8 ≤ n) : pt (mT g) 5 [.ref o, .int 14] M (fun v M' => (v = some (.int x15) ∧ M = M')) := by
  refine pt_in (b := mb_5 g) rfl (fun kf => ?_)
  show pl (mT g) kf (mb_5 g).2 (0, [(0, .ref o), (1, .int 14)], [], M) _
  refine ps_st (S' := (1, [(0, .ref o), (1, .int 14)], [.int 14], M)) rfl rfl rfl ?_
  refine ps_if (S1 := (10, [(0, .ref o), (1, .int 14)], [], M)) (S2 := (4, [(0, .ref o), (1, .int 14)], [], M)) rfl rfl rfl (fun c_1 => ?_) (fun c_1 => ?_)
  · exact absurd (of_decide_eq_true c_1) (by decide)
  refine ps_st (S' := (5, [(0, .ref o), (1, .int 14)], [.int 14], M)) rfl rfl rfl ?_
  refine ps_st (S' := (7, [(0, .ref o), (1, .int 14)], [.int 15, .int 14], M)) rfl rfl rfl ?_
  refine ps_if2 (S1 := (20, [(0, .ref o), (1, .int 14)], [], M)) (S2 := (10, [(0, .ref o), (1, .int 14)], [], M)) rfl rfl rfl (fun c_7 => ?_) (fun c_7 => ?_)
  rotate_left
  · exact absurd (by decide) (of_decide_eq_false c_7)
  refine ps_st (S' := (21, [(0, .ref o), (1, .int 14)], [.ref o], M)) rfl rfl rfl ?_
  refine ps_get (S' := (24, [(0, .ref o), (1, .int 14)], [.ref c], M)) rfl h_o rfl rfl ?_
  refine ps_st (S' := (31, [(0, .ref o), (1, .int 14)], [], M)) rfl rfl rfl ?_
  refine ps_st (S' := (32, [(0, .ref o), (1, .int 14)], [.ref o], M)) rfl rfl rfl ?_
  refine ps_get (S' := (35, [(0, .ref o), (1, .int 14)], [.ref c], M)) rfl h_o rfl rfl ?_
  refine ps_st (S' := (36, [(0, .ref o), (1, .int 14)], [.int 14, .ref c], M)) rfl rfl rfl ?_
  refine pl_call (a := [.ref c, .int 14]) (rest := []) rfl rfl rfl (dk_num14 (f := f) (n := n) (N := N) (q := q) (c := c) (b := b) (da := da) (fr := fr) (mr := mr) (p1 := p1) (l1 := l1) (l2 := l2) (q1 := q1) (q2 := q2) (q3 := q3) (q4 := q4) (q5 := q5) (q6 := q6) (R1 := R1) (R2 := R2) (cc := cc) (u2 := u2) (u3 := u3) (u5 := u5) (x8 := x8) (x9 := x9) (x10 := x10) (x11 := x11) (x12 := x12) (x13 := x13) (x14 := x14) (x15 := x15) (x16 := x16) h_c h_b h_da h_q h_fr h_mr (hn) (hp1)) (fun v1 M2 q3 => ?_)
  obtain ⟨rfl, rfl⟩ := q3
  show pl _ _ _ (39, [], [.int x15], M) _
  exact ps_reti rfl (⟨rfl, rfl⟩)
set_option maxHeartbeats 1000000 in
theorem dk_count_15 {g : xe_G} {M : mi_H} {f : Nat → Int32} {n N q c b da fr mr p1 l1 l2 q1 q2 q3 q4 q5 q6 : Nat} {R1 R2 : Nat → Value} {cc u2 u3 u5 x8 x9 x10 x11 x12 x13 x14 x15 x16 : Int32} {o ca fl : Nat} {cn wp : Int32} (h_o : M.1 o = some (ob 11 [.ref ca, .int cn, .ref fl, .ref c, .int wp])) (h_c : M.1 c = some (ob 3 [.ref b, .ref q, .int u2, .int u3, .int (nI p1), .int u5, .ref fr, .ref mr, .int x8, .int x9, .int x10, .int x11, .int x12, .int x13, .int x14, .int x15, .int x16])) (h_b : M.1 b = some (ob 1 [.ref da])) (h_da : M.1 da = some (ar .byte n f)) (h_q : M.1 q = some (ob 7 [.int (nI N), .ref q1, .ref q2, .ref q3, .ref q4, .ref q5, .ref q6, .int cc])) (h_fr : M.1 fr = some (ro "ClassGate$Member" l1 R1)) (h_mr : M.1 mr = some (ro "ClassGate$Member" l2 R2)) (hn : n ≤ 65540) (hp1 : p1 + 8 ≤ n) : pt (mT g) 5 [.ref o, .int 15] M (fun v M' => (v = some (.int x16) ∧ M = M')) := by
  refine pt_in (b := mb_5 g) rfl (fun kf => ?_)
  show pl (mT g) kf (mb_5 g).2 (0, [(0, .ref o), (1, .int 15)], [], M) _
  refine ps_st (S' := (1, [(0, .ref o), (1, .int 15)], [.int 15], M)) rfl rfl rfl ?_
  refine ps_if (S1 := (10, [(0, .ref o), (1, .int 15)], [], M)) (S2 := (4, [(0, .ref o), (1, .int 15)], [], M)) rfl rfl rfl (fun c_1 => ?_) (fun c_1 => ?_)
  · exact absurd (of_decide_eq_true c_1) (by decide)
  refine ps_st (S' := (5, [(0, .ref o), (1, .int 15)], [.int 15], M)) rfl rfl rfl ?_
  refine ps_st (S' := (7, [(0, .ref o), (1, .int 15)], [.int 15, .int 15], M)) rfl rfl rfl ?_
  refine ps_if2 (S1 := (20, [(0, .ref o), (1, .int 15)], [], M)) (S2 := (10, [(0, .ref o), (1, .int 15)], [], M)) rfl rfl rfl (fun c_7 => ?_) (fun c_7 => ?_)
  rotate_left
  · exact absurd (by decide) (of_decide_eq_false c_7)
  refine ps_st (S' := (21, [(0, .ref o), (1, .int 15)], [.ref o], M)) rfl rfl rfl ?_
  refine ps_get (S' := (24, [(0, .ref o), (1, .int 15)], [.ref c], M)) rfl h_o rfl rfl ?_
  refine ps_st (S' := (31, [(0, .ref o), (1, .int 15)], [], M)) rfl rfl rfl ?_
  refine ps_st (S' := (32, [(0, .ref o), (1, .int 15)], [.ref o], M)) rfl rfl rfl ?_
  refine ps_get (S' := (35, [(0, .ref o), (1, .int 15)], [.ref c], M)) rfl h_o rfl rfl ?_
  refine ps_st (S' := (36, [(0, .ref o), (1, .int 15)], [.int 15, .ref c], M)) rfl rfl rfl ?_
  refine pl_call (a := [.ref c, .int 15]) (rest := []) rfl rfl rfl (dk_num15 (f := f) (n := n) (N := N) (q := q) (c := c) (b := b) (da := da) (fr := fr) (mr := mr) (p1 := p1) (l1 := l1) (l2 := l2) (q1 := q1) (q2 := q2) (q3 := q3) (q4 := q4) (q5 := q5) (q6 := q6) (R1 := R1) (R2 := R2) (cc := cc) (u2 := u2) (u3 := u3) (u5 := u5) (x8 := x8) (x9 := x9) (x10 := x10) (x11 := x11) (x12 := x12) (x13 := x13) (x14 := x14) (x15 := x15) (x16 := x16) h_c h_b h_da h_q h_fr h_mr (hn) (hp1)) (fun v1 M2 q3 => ?_)
  obtain ⟨rfl, rfl⟩ := q3
  show pl _ _ _ (39, [], [.int x16], M) _
  exact ps_reti rfl (⟨rfl, rfl⟩)
theorem dk_count {g : xe_G} {M : mi_H} {ko : Option (Nat × (Nat → Int32))} {kv : Value} {cm o fl : Nat} {cn wp w : Int32} (hx : M.1 o = some (ob 11 [.ref cm, .int cn, .ref fl, kv, .int wp])) (hK : KPC g ko kv cm M) (h0 : ¬ w < 0) (h1 : w ≤ 15) : pt (mT g) 5 [.ref o, .int w] M (fun v M' => v = some (.int (cnK ko w)) ∧ M = M') := by
  cases ko with
  | none =>
    have e : kv = .null := hK
    subst e
    exact dk_count0 hx h0 h1
  | some r =>
    obtain ⟨c, da, rfl, ⟨b, q, N, E, p1, pF, pM, pA, w', k1, k2, k3, k4, k5, rfl, -, k7, fr, mr, G1, G2, _, _, bc, K, rfl, m1, m2, m3, m4, m5, m6, m7, m8, -⟩, -, -⟩ := hK
    rw [cnK_is k5 m7 m8]
    have hcl := s_class_in m3
    obtain ⟨ew, hw⟩ := i32_16 h0 h1
    obtain ⟨j, ej⟩ : ∃ j, j = w.toNatClampNeg := ⟨_, rfl⟩
    rw [← ej] at ew hw ⊢
    subst ew
    obtain ⟨R1, r1, -⟩ := m1.2.1
    obtain ⟨R2, r2, -⟩ := m2.2.1
    obtain ⟨hL9, H, m, qq, F, cc, hP9, hT9, -, hb9, hVF, -⟩ := id k4
    have hq := hP9.1
    rw [hb9.2.2.2] at hq
    have hp1 : p1 + 8 ≤ r.1 := by omega
    rcases (show j = 0 ∨ j = 1 ∨ j = 2 ∨ j = 3 ∨ j = 4 ∨ j = 5 ∨ j = 6 ∨ j = 7 ∨ j = 8 ∨ j = 9 ∨ j = 10 ∨ j = 11 ∨ j = 12 ∨ j = 13 ∨ j = 14 ∨ j = 15 by omega) with rfl | rfl | rfl | rfl | rfl | rfl | rfl | rfl | rfl | rfl | rfl | rfl | rfl | rfl | rfl | rfl
    · exact dk_count_0 hx k1 k2 k3 hq r1 r2 k7 hp1
    · exact dk_count_1 hx k1 k2 k3 hq r1 r2 k7 hp1
    · exact dk_count_2 hx k1 k2 k3 hq r1 r2 k7 hp1
    · exact dk_count_3 hx k1 k2 k3 hq r1 r2 k7 hp1
    · exact dk_count_4 hx k1 k2 k3 hq r1 r2 k7 hp1
    · exact dk_count_5 hx k1 k2 k3 hq r1 r2 k7 hp1
    · exact dk_count_6 hx k1 k2 k3 hq r1 r2 k7 hp1
    · exact dk_count_7 hx k1 k2 k3 hq r1 r2 k7 hp1
    · exact dk_count_8 hx k1 k2 k3 hq r1 r2 k7 hp1
    · exact dk_count_9 hx k1 k2 k3 hq r1 r2 k7 hp1
    · exact dk_count_10 hx k1 k2 k3 hq r1 r2 k7 hp1
    · exact dk_count_11 hx k1 k2 k3 hq r1 r2 k7 hp1
    · exact dk_count_12 hx k1 k2 k3 hq r1 r2 k7 hp1
    · exact dk_count_13 hx k1 k2 k3 hq r1 r2 k7 hp1
    · exact dk_count_14 hx k1 k2 k3 hq r1 r2 k7 hp1
    · exact dk_count_15 hx k1 k2 k3 hq r1 r2 k7 hp1
