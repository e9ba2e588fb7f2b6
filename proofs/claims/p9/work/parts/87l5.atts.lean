/-! the class's attributes, as the reference checks them (laid by wip/p4/e15.py) -/

section BRS
variable {f : Nat → Int32} {n : Nat} {E : List (Nat × Nat)} {x p s : Nat}
theorem br_5 : brS f n E x (4 + 1) p s = if inA f E (p + 6 + 2) (by2 f (p + 6)) 0 = 0 then some (.inl 33) else none := by
  unfold brS
  rw [if_pos (by decide)]
theorem br_6 : brS f n E x (5 + 1) p s = if bsA f E (by2 f (p + 6)) (p + 6 + 2) = 0 then some (.inl 38) else none := by
  unfold brS
  rw [if_neg (by decide), if_neg (by decide), if_neg (by decide), if_neg (by decide), if_neg (by decide), if_pos (by decide)]
theorem br_7 : brS f n E x (6 + 1) p s = if tg f E (by2 f (p + 6)) = 7 ∧ sb s 8 = 0 then none else some (.inl 34) := by
  unfold brS
  rw [if_neg (by decide), if_pos (by decide)]
theorem br_8 : brS f n E x (7 + 1) p s = if ¬ clA f E (p + 6 + 2) (by2 f (p + 6)) 0 = 0 ∧ sb s 7 = 0 then none else some (.inl 35) := by
  unfold brS
  rw [if_neg (by decide), if_neg (by decide), if_pos (by decide)]
theorem br_10 : brS f n E x (9 + 1) p s = if ¬ clA f E (p + 6 + 2) (by2 f (p + 6)) 0 = 0 ∧ hasN x 16 = 0 then none else some (.inl 36) := by
  unfold brS
  rw [if_neg (by decide), if_neg (by decide), if_neg (by decide), if_pos (by decide)]
theorem br_9 : brS f n E x (8 + 1) p s = match rcS f n E p (by2 f (p + 6)) (p + 6 + 2) with
    | none => none
    | some e => some (.inr e) := by
  unfold brS
  rw [if_neg (by decide), if_neg (by decide), if_neg (by decide), if_neg (by decide), if_pos (by decide)]
  rfl
theorem br_9s {e9 : Nat × Nat} (h : rcS f n E p (by2 f (p + 6)) (p + 6 + 2) = some e9) : brS f n E x (8 + 1) p s = some (.inr e9) := by
  rw [br_9, h]
theorem br_9n (h : rcS f n E p (by2 f (p + 6)) (p + 6 + 2) = none) : brS f n E x (8 + 1) p s = none := by
  rw [br_9, h]
end BRS
theorem sb_0 {k : Nat} : sb 0 k = 0 := by
  unfold sb
  rw [Nat.zero_testBit]
  rfl
theorem kb_4 {mj : Nat} {l : List Nat} : kb mj 4 l 10 = if 61 ≤ mj ∧ ¬ eqN l (ltx 24) = 0 then some 9 else if 60 ≤ mj ∧ ¬ eqN l (ltx 23) = 0 then some 8 else if 55 ≤ mj ∧ ¬ eqN l (ltx 22) = 0 then some 7 else if 55 ≤ mj ∧ ¬ eqN l (ltx 21) = 0 then some 6 else if 51 ≤ mj ∧ ¬ eqN l (ltx 20) = 0 then some 5 else if ¬ eqN l (ltx 19) = 0 then some 4 else none := by
  simp only [kb, kiN, kfN]
  simp
theorem lt_6 : ltx 3 = ltx 19 ∧ ltx 4 = ltx 20 ∧ ltx 5 = ltx 21 ∧ ltx 6 = ltx 22 ∧ ltx 7 = ltx 23 ∧ ltx 8 = ltx 24 := by decide +kernel
theorem eqd : ∀ a, a < 6 → ∀ b, b < 6 → eqN (ltx (19 + a)) (ltx (19 + b)) = if a = b then 1 else 0 := by decide +kernel
def ckL (mj : Nat) (l : List Nat) : Nat := if ¬ eqN l (ltx 19) = 0 then 5 else if 51 ≤ mj ∧ ¬ eqN l (ltx 20) = 0 then 6 else if 55 ≤ mj ∧ ¬ eqN l (ltx 21) = 0 then 7 else
  if 55 ≤ mj ∧ ¬ eqN l (ltx 22) = 0 then 8 else if 60 ≤ mj ∧ ¬ eqN l (ltx 23) = 0 then 9 else if 61 ≤ mj ∧ ¬ eqN l (ltx 24) = 0 then 10 else 0
theorem ck_L {f : Nat → Int32} {n mj x : Nat} {E : List (Nat × Nat)} : ckN f n E mj x = ckL mj (tX f n E x) := by
  unfold ckN ckL
  rw [lt_6.1, lt_6.2.1, lt_6.2.2.1, lt_6.2.2.2.1, lt_6.2.2.2.2.1, lt_6.2.2.2.2.2]
theorem ck_one {mj a : Nat} (ha : a < 6) : ∀ b, b < 6 → ¬ a = b → eqN (ltx (19 + a)) (ltx (19 + b)) = 0 := fun b hb h => by rw [eqd a ha b hb, if_neg h]
theorem ck_kb {mj : Nat} {l : List Nat} : (kb mj 4 l 10 = none ∧ ckL mj l = 0) ∨ ∃ w, kb mj 4 l 10 = some w ∧ (4 ≤ w ∧ w ≤ 9) ∧ ckL mj l = w + 1 := by
  have hz : (∀ b, b < 6 → eqN l (ltx (19 + b)) = 0) ∨ ∃ a, a < 6 ∧ ∀ b, b < 6 → eqN l (ltx (19 + b)) = if a = b then 1 else 0 := by
    by_cases h : ∃ a, a < 6 ∧ l = ltx (19 + a)
    · obtain ⟨a, ha, e⟩ := h
      exact Or.inr ⟨a, ha, fun b hb => by rw [e]; exact eqd a ha b hb⟩
    · exact Or.inl (fun b hb => by unfold eqN; rw [if_neg (fun e => h ⟨b, hb, e⟩)])
  rw [kb_4]
  unfold ckL
  rcases hz with hz | ⟨a, ha, hz⟩
  · have z0 := hz 0 (by decide); have z1 := hz 1 (by decide); have z2 := hz 2 (by decide); have z3 := hz 3 (by decide); have z4 := hz 4 (by decide); have z5 := hz 5 (by decide)
    simp only [Nat.add_zero, Nat.reduceAdd] at z0 z1 z2 z3 z4 z5
    exact Or.inl (by simp [z0, z1, z2, z3, z4, z5])
  · have z0 := hz 0 (by decide); have z1 := hz 1 (by decide); have z2 := hz 2 (by decide); have z3 := hz 3 (by decide); have z4 := hz 4 (by decide); have z5 := hz 5 (by decide)
    simp only [Nat.add_zero, Nat.reduceAdd] at z0 z1 z2 z3 z4 z5
    rw [z0, z1, z2, z3, z4, z5]
    rcases (show a = 0 ∨ a = 1 ∨ a = 2 ∨ a = 3 ∨ a = 4 ∨ a = 5 by omega) with rfl | rfl | rfl | rfl | rfl | rfl
    · exact Or.inr ⟨4, by simp, by omega, by simp⟩
    · by_cases hm : 51 ≤ mj
      · exact Or.inr ⟨5, by simp [hm], by omega, by simp [hm]⟩
      · exact Or.inl (by simp [hm])
    · by_cases hm : 55 ≤ mj
      · exact Or.inr ⟨6, by simp [hm], by omega, by simp [hm]⟩
      · exact Or.inl (by simp [hm])
    · by_cases hm : 55 ≤ mj
      · exact Or.inr ⟨7, by simp [hm], by omega, by simp [hm]⟩
      · exact Or.inl (by simp [hm])
    · by_cases hm : 60 ≤ mj
      · exact Or.inr ⟨8, by simp [hm], by omega, by simp [hm]⟩
      · exact Or.inl (by simp [hm])
    · by_cases hm : 61 ≤ mj
      · exact Or.inr ⟨9, by simp [hm], by omega, by simp [hm]⟩
      · exact Or.inl (by simp [hm])
theorem ck_y {f : Nat → Int32} {n mj x : Nat} {E : List (Nat × Nat)} (h : ¬ (gI (kb mj 4 (tX f n E x) 10) < 0)) : ∃ w, kb mj 4 (tX f n E x) 10 = some w ∧ (4 ≤ w ∧ w ≤ 9) ∧ ckN f n E mj x = w + 1 := by
  rw [ck_L]
  rcases ck_kb (mj := mj) (l := tX f n E x) with h9 | h9
  · rw [h9.1] at h
    exact absurd (by decide) h
  · exact h9
theorem ck_n {f : Nat → Int32} {n mj x : Nat} {E : List (Nat × Nat)} (h : gI (kb mj 4 (tX f n E x) 10) < 0) : ckN f n E mj x = 0 := by
  rw [ck_L]
  rcases ck_kb (mj := mj) (l := tX f n E x) with h9 | ⟨w, h8, h7, h6⟩
  · exact h9.2
  · rw [h8] at h
    exfalso
    have h1 : nI 0 ≤ nI w := (le_nI (p := 0) (n := w) (by decide) (by omega)).mpr (Nat.zero_le _)
    have h2 : nI w < nI 0 := h
    have h3 := (lt_nI (p := w) (n := 0) (by omega) (by decide)).mp h2
    omega
section CLS
variable {f : Nat → Int32} {n : Nat} {E : List (Nat × Nat)} {x mj c i p s bc w : Nat}
theorem clS_28 (h : i < c) (ht : ¬ tg f E (by2 f p) = 1) : clS f n E x mj (c - i) p s bc = .inl (28, p) := by
  rw [clS_st h, show nwS f E s (ckN f n E mj (by2 f p)) p = .inl (28, p) by unfold nwS; rw [if_pos ht]]
theorem clS_29 (h : i < c) (ht : tg f E (by2 f p) = 1) (hk : ckN f n E mj (by2 f p) = w + 1) (hw : 4 ≤ w) (hs : ¬ sb s (w + 1) = 0) : clS f n E x mj (c - i) p s bc = .inl (29, p) := by
  rw [clS_st h, hk, show nwS f E s (w + 1) p = .inl (29, p) by unfold nwS; rw [if_neg (fun h9 => h9 ht), if_neg (by omega), if_pos hs]]
theorem clS_u (h : i < c) (ht : tg f E (by2 f p) = 1) (hk : ckN f n E mj (by2 f p) = 0) : clS f n E x mj (c - i) p s bc = clS f n E x mj (c - (i + 1)) (p + 6 + by4 f (p + 2)) s bc := by
  rw [clS_st h, hk, show nwS f E s 0 p = .inr s by unfold nwS; rw [if_neg (fun h9 => h9 ht), if_pos rfl]]
  dsimp only
  rw [if_neg (fun h9 => h9.1 rfl), show brS f n E x 0 p s = none by unfold brS; rfl]
  rfl
theorem clS_k {s3 : Nat} (h : i < c) (ht : tg f E (by2 f p) = 1) (hk : ckN f n E mj (by2 f p) = w + 1) (hs : sb s3 w = 0) (hq : sb s3 w = sb s (w + 1)) : clS f n E x mj (c - i) p s bc = if ¬ s_fe f (w + 1) (p + 6) (p + 6 + by4 f (p + 2)) = some (p + 6 + by4 f (p + 2)) then .inl (30, p) else
    match brS f n E x (w + 1) p (so s (w + 1)) with
      | some (.inl r9) => .inl (r9, p)
      | some (.inr e) => .inl e
      | none => clS f n E x mj (c - (i + 1)) (p + 6 + by4 f (p + 2)) (so s (w + 1)) (if w = 5 then by2 f (p + 6) else bc) := by
  rw [clS_st h, hk, show nwS f E s (w + 1) p = .inr (so s (w + 1)) by unfold nwS; rw [if_neg (fun h9 => h9 ht), if_neg (by omega), if_neg (fun h9 => h9 (by omega))]]
  have h5 : (if w + 1 = 6 then by2 f (p + 6) else bc) = (if w = 5 then by2 f (p + 6) else bc) := by
    by_cases h9 : w = 5
    · rw [if_pos h9, if_pos (by omega)]
    · rw [if_neg h9, if_neg (by omega)]
  rw [← h5]
  dsimp only
  by_cases h4 : ¬ s_fe f (w + 1) (p + 6) (p + 6 + by4 f (p + 2)) = some (p + 6 + by4 f (p + 2))
  · rw [if_pos h4, if_pos ⟨by omega, h4⟩]
  · rw [if_neg h4, if_neg (fun h9 => h4 h9.2)]
    rfl
end CLS
set_option maxHeartbeats 1000000 in
theorem rd_attrK {g : xe_G} {m0 : Nat} {q : Nat → Nat} {z : Nat × Nat} {I : rI} {R : rR} {M : mi_H} {n : Nat} {f : Nat → Int32} {tx : List (List Nat)} {cN : Nat} {A : Nat → Nat} {N mj : Nat} {E : List (Nat × Nat)} {p e x s3 s2 fl w nb : Nat} {t : Int32} {n5 n8 n10 : Nat} {n7 n9 : Int32} (hR : RS g m0 q z I R M) (hi51 : I 51 = some 0) (hi52 : I 52 = some (nI N)) (hi53 : I 53 = some (nI mj)) (hi58 : I 58 = some (nI fl)) (hi71 : I 71 = some (nI nb)) (hi65 : I 65 = some (nI n5)) (hi68 : I 68 = some (nI n8)) (hi69 : I 69 = some (nI n10)) (hi70 : I 70 = some n7) (hi72 : I 72 = some n9) (hF : FK n f I R) (hY : SYT tx cN A I R) (hP : RPV f n E tx N I R) (hEP : EP f n E) (hN : N < 65536) (hmj : mj < 65536) (he : p + 6 ≤ e ∧ e ≤ n) (hs3 : s3 < 2048) (hf6 : fl < 65536) (hw : 4 ≤ w ∧ w ≤ 9) (h6 : w = 6 → sb s2 8 = sb s3 7) (h7 : w = 7 → sb s2 7 = sb s3 6) : pt (mT g) 177 [.ref m0, .int (nI w), .int t, .int (nI (p + 6)), .int (nI e), .int (nI x), .int (nI s3)] M (fun v M' => (∃  (I' : rI) (R' : rR), (¬ s_fe f (w + 1) (p + 6) e = some e) ∧ v = some (.int 30) ∧ RS g m0 q z I' R' M' ∧ eqI [47, 48, 65, 67, 68, 69, 70, 71, 72] I I' ∧ eqR [] R R') ∨ (∃ (r : Nat) (I' : rI) (R' : rR), (s_fe f (w + 1) (p + 6) e = some e) ∧ (brS f n E fl (w + 1) p s2 = some (.inl r) ∨ brS f n E fl (w + 1) p s2 = some (.inr (r, p))) ∧ (31 ≤ r ∧ r ≤ 38) ∧ v = some (.int (nI r)) ∧ RS g m0 q z I' R' M' ∧ eqI [47, 48, 65, 67, 68, 69, 70, 71, 72] I I' ∧ eqR [] R R') ∨ (∃ (e9 : Nat × Nat) (I' : rI) (R' : rR), (s_fe f (w + 1) (p + 6) e = some e) ∧ (brS f n E fl (w + 1) p s2 = some (.inr e9)) ∧ v = some (.int (-1)) ∧ RS g m0 q z I' R' M' ∧ eqI [47, 48, 65, 67, 68, 69, 70, 71, 72] I I' ∧ eqR [] R R' ∧ I' 47 = some (nI e9.1) ∧ I' 48 = some (nI e9.2)) ∨ (∃  (I' : rI) (R' : rR), (s_fe f (w + 1) (p + 6) e = some e) ∧ (brS f n E fl (w + 1) p s2 = none) ∧ v = some (.int 0) ∧ RS g m0 q z I' R' M' ∧ eqI [47, 48, 65, 67, 68, 69, 70, 71, 72] I I' ∧ eqR [] R R' ∧ I' 71 = some (nI (if w = 5 then by2 f (p + 6) else nb)) ∧ I' 65 = some (nI (if w + 1 = 5 then by2 f (p + 6) else n5)) ∧ I' 68 = some (nI (if w + 1 = 8 then by2 f (p + 6) else n8)) ∧ I' 69 = some (nI (if w + 1 = 10 then by2 f (p + 6) else n10)) ∧ I' 70 = some (if w + 1 = 6 then (nI (p + 6)) else n7) ∧ I' 72 = some (if w + 1 = 9 then (nI (by2 f (p + 6))) else n9))) := by
  rcases (show w = 4 ∨ w = 5 ∨ w = 6 ∨ w = 7 ∨ w = 8 ∨ w = 9 by omega) with rfl | rfl | rfl | rfl | rfl | rfl
  · refine pt.mono (rd_attr4 (p0 := p + 6) hR hi51 hi52 hi53 hF hY hP hEP hN hmj he hs3) (fun v M' h9 => ?_)
    rcases h9 with ⟨I', R', hs, hv, hR', hI', hX'⟩ | ⟨I', R', hs, hb, hv, hR', hI', hX'⟩ | ⟨I', R', hs, hb, hv, hR', hI', hX', h65⟩
    · exact Or.inl ⟨I', R', hs, hv, hR', eqI.rf.tr hI' (by decide), eqR.rf.tr hX' (by decide)⟩
    · exact Or.inr (Or.inl ⟨33, I', R', hs, Or.inl (by rw [br_5, if_pos hb]), by decide, hv, hR', eqI.rf.tr hI' (by decide), eqR.rf.tr hX' (by decide)⟩)
    · exact Or.inr (Or.inr (Or.inr ⟨I', R', hs, by rw [br_5, if_neg hb], hv, hR', eqI.rf.tr hI' (by decide), eqR.rf.tr hX' (by decide), (by rw [if_neg (by decide)]; exact (hI' 71 (by decide)).trans hi71), (by rw [if_pos (by decide)]; exact h65), (by rw [if_neg (by decide)]; exact (hI' 68 (by decide)).trans hi68), (by rw [if_neg (by decide)]; exact (hI' 69 (by decide)).trans hi69), (by rw [if_neg (by decide)]; exact (hI' 70 (by decide)).trans hi70), (by rw [if_neg (by decide)]; exact (hI' 72 (by decide)).trans hi72)⟩))
  · refine pt.mono (rd_attr5 (p0 := p + 6) hR hi51 hi52 hi53 hF hY hP hEP hN hmj he hs3) (fun v M' h9 => ?_)
    rcases h9 with ⟨I', R', hs, hv, hR', hI', hX'⟩ | ⟨I', R', hs, hb, hv, hR', hI', hX'⟩ | ⟨I', R', hs, hb, hv, hR', hI', hX', h71, h70⟩
    · exact Or.inl ⟨I', R', hs, hv, hR', eqI.rf.tr hI' (by decide), eqR.rf.tr hX' (by decide)⟩
    · exact Or.inr (Or.inl ⟨38, I', R', hs, Or.inl (by rw [br_6, if_pos hb]), by decide, hv, hR', eqI.rf.tr hI' (by decide), eqR.rf.tr hX' (by decide)⟩)
    · exact Or.inr (Or.inr (Or.inr ⟨I', R', hs, by rw [br_6, if_neg hb], hv, hR', eqI.rf.tr hI' (by decide), eqR.rf.tr hX' (by decide), (by rw [if_pos rfl]; exact h71), (by rw [if_neg (by decide)]; exact (hI' 65 (by decide)).trans hi65), (by rw [if_neg (by decide)]; exact (hI' 68 (by decide)).trans hi68), (by rw [if_neg (by decide)]; exact (hI' 69 (by decide)).trans hi69), (by rw [if_pos (by decide)]; exact h70), (by rw [if_neg (by decide)]; exact (hI' 72 (by decide)).trans hi72)⟩))
  · refine pt.mono (rd_attr6 (p0 := p + 6) hR hi51 hi52 hi53 hF hY hP hEP hN hmj he hs3) (fun v M' h9 => ?_)
    rcases h9 with ⟨I', R', hs, hv, hR', hI', hX'⟩ | ⟨I', R', hs, hb, hv, hR', hI', hX'⟩ | ⟨I', R', hs, hb, hv, hR', hI', hX'⟩
    · exact Or.inl ⟨I', R', hs, hv, hR', eqI.rf.tr hI' (by decide), eqR.rf.tr hX' (by decide)⟩
    · exact Or.inr (Or.inl ⟨34, I', R', hs, Or.inl (by rw [br_7, if_neg (fun h8 => hb ⟨h8.1, by rw [← h6 rfl]; exact h8.2⟩)]), by decide, hv, hR', eqI.rf.tr hI' (by decide), eqR.rf.tr hX' (by decide)⟩)
    · exact Or.inr (Or.inr (Or.inr ⟨I', R', hs, by rw [br_7, if_pos ⟨hb.1, by rw [h6 rfl]; exact hb.2⟩], hv, hR', eqI.rf.tr hI' (by decide), eqR.rf.tr hX' (by decide), (by rw [if_neg (by decide)]; exact (hI' 71 (by decide)).trans hi71), (by rw [if_neg (by decide)]; exact (hI' 65 (by decide)).trans hi65), (by rw [if_neg (by decide)]; exact (hI' 68 (by decide)).trans hi68), (by rw [if_neg (by decide)]; exact (hI' 69 (by decide)).trans hi69), (by rw [if_neg (by decide)]; exact (hI' 70 (by decide)).trans hi70), (by rw [if_neg (by decide)]; exact (hI' 72 (by decide)).trans hi72)⟩))
  · refine pt.mono (rd_attr7 (p0 := p + 6) hR hi51 hi52 hi53 hF hY hP hEP hN hmj he hs3) (fun v M' h9 => ?_)
    rcases h9 with ⟨I', R', hs, hv, hR', hI', hX'⟩ | ⟨I', R', hs, hb, hv, hR', hI', hX'⟩ | ⟨I', R', hs, hb, hv, hR', hI', hX', h68⟩
    · exact Or.inl ⟨I', R', hs, hv, hR', eqI.rf.tr hI' (by decide), eqR.rf.tr hX' (by decide)⟩
    · exact Or.inr (Or.inl ⟨35, I', R', hs, Or.inl (by rw [br_8, if_neg (fun h8 => (by rcases hb with hb | hb; exact h8.1 hb; exact hb (by rw [← h7 rfl]; exact h8.2)))]), by decide, hv, hR', eqI.rf.tr hI' (by decide), eqR.rf.tr hX' (by decide)⟩)
    · exact Or.inr (Or.inr (Or.inr ⟨I', R', hs, by rw [br_8, if_pos ⟨hb.1, by rw [h7 rfl]; exact hb.2⟩], hv, hR', eqI.rf.tr hI' (by decide), eqR.rf.tr hX' (by decide), (by rw [if_neg (by decide)]; exact (hI' 71 (by decide)).trans hi71), (by rw [if_neg (by decide)]; exact (hI' 65 (by decide)).trans hi65), (by rw [if_pos (by decide)]; exact h68), (by rw [if_neg (by decide)]; exact (hI' 69 (by decide)).trans hi69), (by rw [if_neg (by decide)]; exact (hI' 70 (by decide)).trans hi70), (by rw [if_neg (by decide)]; exact (hI' 72 (by decide)).trans hi72)⟩))
  · refine pt.mono (rd_attr8 (p0 := p + 6) (t := p) hR hi51 hi52 hi53 hF hY hP hEP hN hmj he hs3) (fun v M' h9 => ?_)
    rcases h9 with ⟨I', R', hs, hv, hR', hI', hX'⟩ | ⟨I', R', hs, hb, hv, hR', hI', hX'⟩ | ⟨y, I', R', hs, hb, hv, hR', hI', hX', h47, h48⟩ | ⟨I', R', hs, hb, hv, hR', hI', hX', h72⟩
    · exact Or.inl ⟨I', R', hs, hv, hR', eqI.rf.tr hI' (by decide), eqR.rf.tr hX' (by decide)⟩
    · exact Or.inr (Or.inl ⟨37, I', R', hs, Or.inr (br_9s hb), by decide, hv, hR', eqI.rf.tr hI' (by decide), eqR.rf.tr hX' (by decide)⟩)
    · exact Or.inr (Or.inr (Or.inl ⟨(28, y), I', R', hs, br_9s hb, hv, hR', eqI.rf.tr hI' (by decide), eqR.rf.tr hX' (by decide), h47, h48⟩))
    · exact Or.inr (Or.inr (Or.inr ⟨I', R', hs, br_9n hb, hv, hR', eqI.rf.tr hI' (by decide), eqR.rf.tr hX' (by decide), (by rw [if_neg (by decide)]; exact (hI' 71 (by decide)).trans hi71), (by rw [if_neg (by decide)]; exact (hI' 65 (by decide)).trans hi65), (by rw [if_neg (by decide)]; exact (hI' 68 (by decide)).trans hi68), (by rw [if_neg (by decide)]; exact (hI' 69 (by decide)).trans hi69), (by rw [if_neg (by decide)]; exact (hI' 70 (by decide)).trans hi70), (by rw [if_pos (by decide)]; exact h72)⟩))
  · refine pt.mono (rd_attr9 (p0 := p + 6) hR hi51 hi52 hi53 hi58 hF hY hP hEP hN hmj he hs3 hf6) (fun v M' h9 => ?_)
    rcases h9 with ⟨I', R', hs, hv, hR', hI', hX'⟩ | ⟨I', R', hs, hb, hv, hR', hI', hX'⟩ | ⟨I', R', hs, hb, hv, hR', hI', hX', h69⟩
    · exact Or.inl ⟨I', R', hs, hv, hR', eqI.rf.tr hI' (by decide), eqR.rf.tr hX' (by decide)⟩
    · exact Or.inr (Or.inl ⟨36, I', R', hs, Or.inl (by rw [br_10, if_neg (fun h8 => (by rcases hb with hb | hb; exact h8.1 hb; exact hb (has_9.mp h8.2)))]), by decide, hv, hR', eqI.rf.tr hI' (by decide), eqR.rf.tr hX' (by decide)⟩)
    · exact Or.inr (Or.inr (Or.inr ⟨I', R', hs, by rw [br_10, if_pos ⟨hb.1, has_9.mpr hb.2⟩], hv, hR', eqI.rf.tr hI' (by decide), eqR.rf.tr hX' (by decide), (by rw [if_neg (by decide)]; exact (hI' 71 (by decide)).trans hi71), (by rw [if_neg (by decide)]; exact (hI' 65 (by decide)).trans hi65), (by rw [if_neg (by decide)]; exact (hI' 68 (by decide)).trans hi68), (by rw [if_pos (by decide)]; exact h69), (by rw [if_neg (by decide)]; exact (hI' 70 (by decide)).trans hi70), (by rw [if_neg (by decide)]; exact (hI' 72 (by decide)).trans hi72)⟩))
set_option maxHeartbeats 4000000 in
theorem rd_checkAttributes4 {g : xe_G} {m0 : Nat} {q : Nat → Nat} {z : Nat × Nat} {I : rI} {R : rR} {M : mi_H} {n : Nat} {f : Nat → Int32} {tx : List (List Nat)} {cN : Nat} {A : Nat → Nat} {N mj : Nat} {E : List (Nat × Nat)} {p1 e x fl : Nat} (hR : RS g m0 q z I R M) (hi51 : I 51 = some 0) (hi52 : I 52 = some (nI N)) (hi53 : I 53 = some (nI mj)) (hi58 : I 58 = some (nI fl)) (hi71 : I 71 = some (nI 0)) (hi66 : I 66 = some (nI 0)) (hi65 : I 65 = some (nI 0)) (hi68 : I 68 = some (nI 0)) (hi69 : I 69 = some (nI 0)) (hi70 : I 70 = some (-1)) (hi72 : I 72 = some (-1)) (hF : FK n f I R) (hY : SYT tx cN A I R) (hP : RPV f n E tx N I R) (hK : KX I R) (hEP : EP f n E) (hN : N < 65536) (hmj : mj < 65536) (hin : p1 + 2 ≤ e ∧ e ≤ n) (hat : s_atE f e (by2 f p1) (p1 + 2) = some e) (hf6 : fl < 65536) : pt (mT g) 187 [.ref m0, .int (nI p1), .int 4, .int (nI x)] M (fun v M' => (∃ (e9 : Nat × Nat) (I' : rI) (R' : rR), (clS f n E fl mj (by2 f p1) (p1 + 2) 0 0 = .inl e9) ∧ v = some (.int (-1)) ∧ RS g m0 q z I' R' M' ∧ eqI [66, 47, 48, 65, 67, 68, 69, 70, 71, 72] I I' ∧ eqR [] R R' ∧ I' 47 = some (nI e9.1) ∧ I' 48 = some (nI e9.2)) ∨ (∃ (bc : Nat) (K : KT) (I' : rI) (R' : rR), (clS f n E fl mj (by2 f p1) (p1 + 2) 0 0 = .inr bc) ∧ (clU f n E mj (by2 f p1) (p1 + 2) (0, 0, 0, 0, 0, -1) = K) ∧ v = some (.int (nI e)) ∧ RS g m0 q z I' R' M' ∧ eqI [66, 47, 48, 65, 67, 68, 69, 70, 71, 72] I I' ∧ eqR [] R R' ∧ I' 71 = some (nI bc) ∧ I' 66 = some (nI K.1) ∧ I' 65 = some (nI K.2.2.1) ∧ I' 68 = some (nI K.2.2.2.1) ∧ I' 69 = some (nI K.2.2.2.2.1) ∧ I' 70 = some (b7 K) ∧ I' 72 = some K.2.2.2.2.2)) := by
  refine pt_in (b := mb_187 g) rfl (fun kf => ?_)
  show pl (mT g) kf (mb_187 g).2 (0, [(0, .ref m0), (1, .int (nI p1)), (2, .int 4), (3, .int (nI x))], [], M) _
  have hEI : eqI [66, 47, 48, 65, 67, 68, 69, 70, 71, 72] I I := eqI.rf
  have hER : eqR [] R R := eqR.rf
  have hn := hF.1
  have LL : ∀ (kf : Nat), (∀ (i p s2 s3 : Nat) (bc : Nat) (K : KT) (M1 : mi_H) (I1 : rI) (R1 : rR), (RS g m0 q z I1 R1 M1) → (eqI [66, 47, 48, 65, 67, 68, 69, 70, 71, 72] I I1) → (eqR [] R R1) → (I1 51 = some 0) → (I1 52 = some (nI N)) → (I1 53 = some (nI mj)) → (I1 58 = some (nI fl)) → (I1 71 = some (nI bc)) → (I1 66 = some (nI K.1)) → (I1 65 = some (nI K.2.2.1)) → (I1 68 = some (nI K.2.2.2.1)) → (I1 69 = some (nI K.2.2.2.2.1)) → (I1 70 = some (b7 K)) → (I1 72 = some K.2.2.2.2.2) → (FK n f I1 R1) → (SYT tx cN A I1 R1) → (RPV f n E tx N I1 R1) → (KX I1 R1) → (i ≤ by2 f p1) → (s3 < 2048) → (∀ w, 4 ≤ w → w ≤ 9 → sb s3 w = sb s2 (w + 1)) → (s_atE f e (by2 f p1 - i) p = some e) → (clS f n E fl mj (by2 f p1 - i) p s2 bc = clS f n E fl mj (by2 f p1) (p1 + 2) 0 0) → (clU f n E mj (by2 f p1 - i) p K = clU f n E mj (by2 f p1) (p1 + 2) (0, 0, 0, 0, 0, -1)) → (K.1 ≤ i) →  pl (mT g) kf (mb_187 g).2 (18, [(0, .ref m0), (2, .int 4), (3, .int (nI x)), (4, .int (nI (by2 f p1))), (5, .int (nI p)), (6, .int (nI s3)), (7, .int (nI i))], [], M1) (fun v M' => (∃ (e9 : Nat × Nat) (I' : rI) (R' : rR), (clS f n E fl mj (by2 f p1) (p1 + 2) 0 0 = .inl e9) ∧ v = some (.int (-1)) ∧ RS g m0 q z I' R' M' ∧ eqI [66, 47, 48, 65, 67, 68, 69, 70, 71, 72] I I' ∧ eqR [] R R' ∧ I' 47 = some (nI e9.1) ∧ I' 48 = some (nI e9.2)) ∨ (∃ (bc : Nat) (K : KT) (I' : rI) (R' : rR), (clS f n E fl mj (by2 f p1) (p1 + 2) 0 0 = .inr bc) ∧ (clU f n E mj (by2 f p1) (p1 + 2) (0, 0, 0, 0, 0, -1) = K) ∧ v = some (.int (nI e)) ∧ RS g m0 q z I' R' M' ∧ eqI [66, 47, 48, 65, 67, 68, 69, 70, 71, 72] I I' ∧ eqR [] R R' ∧ I' 71 = some (nI bc) ∧ I' 66 = some (nI K.1) ∧ I' 65 = some (nI K.2.2.1) ∧ I' 68 = some (nI K.2.2.2.1) ∧ I' 69 = some (nI K.2.2.2.2.1) ∧ I' 70 = some (b7 K) ∧ I' 72 = some K.2.2.2.2.2))) ∧ (∀ (i p s2 s3 k t : Nat) (bc : Nat) (K : KT) (M1 : mi_H) (I1 : rI) (R1 : rR), (RS g m0 q z I1 R1 M1) → (eqI [66, 47, 48, 65, 67, 68, 69, 70, 71, 72] I I1) → (eqR [] R R1) → (I1 51 = some 0) → (I1 52 = some (nI N)) → (I1 53 = some (nI mj)) → (I1 58 = some (nI fl)) → (I1 71 = some (nI bc)) → (I1 66 = some (nI K.1)) → (I1 65 = some (nI K.2.2.1)) → (I1 68 = some (nI K.2.2.2.1)) → (I1 69 = some (nI K.2.2.2.2.1)) → (I1 70 = some (b7 K)) → (I1 72 = some K.2.2.2.2.2) → (FK n f I1 R1) → (SYT tx cN A I1 R1) → (RPV f n E tx N I1 R1) → (KX I1 R1) → (i < by2 f p1) → (s3 < 2048) → (∀ w, 4 ≤ w → w ≤ 9 → sb s3 w = sb s2 (w + 1)) → (s_atE f e (by2 f p1 - i) p = some e) → (clS f n E fl mj (by2 f p1 - i) p s2 bc = clS f n E fl mj (by2 f p1) (p1 + 2) 0 0) → (clU f n E mj (by2 f p1 - i) p K = clU f n E mj (by2 f p1) (p1 + 2) (0, 0, 0, 0, 0, -1)) → (K.1 ≤ i) → (k ≤ 10) → (tg f E (by2 f p) = 1) → (t < tx.length ∧ tx.getD t [] = tX f n E (by2 f p)) →  pl (mT g) kf (mb_187 g).2 (79, [(0, .ref m0), (2, .int 4), (3, .int (nI x)), (4, .int (nI (by2 f p1))), (5, .int (nI p)), (6, .int (nI s3)), (7, .int (nI i)), (8, .int (nI (by4 f (p + 2)))), (9, .int (nI t)), (10, .int (gI (kb mj 4 (tX f n E (by2 f p)) k))), (11, .int (nI k))], [], M1) (fun v M' => (∃ (e9 : Nat × Nat) (I' : rI) (R' : rR), (clS f n E fl mj (by2 f p1) (p1 + 2) 0 0 = .inl e9) ∧ v = some (.int (-1)) ∧ RS g m0 q z I' R' M' ∧ eqI [66, 47, 48, 65, 67, 68, 69, 70, 71, 72] I I' ∧ eqR [] R R' ∧ I' 47 = some (nI e9.1) ∧ I' 48 = some (nI e9.2)) ∨ (∃ (bc : Nat) (K : KT) (I' : rI) (R' : rR), (clS f n E fl mj (by2 f p1) (p1 + 2) 0 0 = .inr bc) ∧ (clU f n E mj (by2 f p1) (p1 + 2) (0, 0, 0, 0, 0, -1) = K) ∧ v = some (.int (nI e)) ∧ RS g m0 q z I' R' M' ∧ eqI [66, 47, 48, 65, 67, 68, 69, 70, 71, 72] I I' ∧ eqR [] R R' ∧ I' 71 = some (nI bc) ∧ I' 66 = some (nI K.1) ∧ I' 65 = some (nI K.2.2.1) ∧ I' 68 = some (nI K.2.2.2.1) ∧ I' 69 = some (nI K.2.2.2.2.1) ∧ I' 70 = some (b7 K) ∧ I' 72 = some K.2.2.2.2.2))) := by
    intro kf
    induction kf with
    | zero => exact ⟨by intros; exact pl_0, by intros; exact pl_0⟩
    | succ kf ih =>
      refine ⟨?_, ?_⟩
      · skip
        intro i p s2 s3 bc K M1 I1 R1 hR1 hEI1 hER1 hl51 hl52 hl53 hl58 hl71 hl66 hl65 hl68 hl69 hl70 hl72 hF1 hY1 hP1 hK1 hi hl hb ha hs9 hu hkn
        have hn := hF1.1
        have hu9 := by2_lt f p1
        have htl := hY1.1.2.2.1
        refine ps_st1 (S' := (20, [(0, .ref m0), (2, .int 4), (3, .int (nI x)), (4, .int (nI (by2 f p1))), (5, .int (nI p)), (6, .int (nI s3)), (7, .int (nI i))], [.int (nI i)], M1)) rfl rfl rfl ?_
        refine ps_st (S' := (22, [(0, .ref m0), (2, .int 4), (3, .int (nI x)), (4, .int (nI (by2 f p1))), (5, .int (nI p)), (6, .int (nI s3)), (7, .int (nI i))], [.int (nI (by2 f p1)), .int (nI i)], M1)) rfl rfl rfl ?_
        refine ps_if2 (S1 := (284, [(0, .ref m0), (2, .int 4), (3, .int (nI x)), (4, .int (nI (by2 f p1))), (5, .int (nI p)), (6, .int (nI s3)), (7, .int (nI i))], [], M1)) (S2 := (25, [(0, .ref m0), (2, .int 4), (3, .int (nI x)), (4, .int (nI (by2 f p1))), (5, .int (nI p)), (6, .int (nI s3)), (7, .int (nI i))], [], M1)) rfl rfl rfl (fun c_22 => ?_) (fun c_22 => ?_)
        · have c_22 : (nI (by2 f p1)) ≤ (nI i) := of_decide_eq_true c_22
          have n_22 : by2 f p1 ≤ i := (le_nI (p := by2 f p1) (n := i) (Nat.lt_trans (by2_lt _ _) (by decide)) (by omega)).mp c_22
          refine ps_st (S' := (286, [(0, .ref m0), (2, .int 4), (3, .int (nI x)), (4, .int (nI (by2 f p1))), (5, .int (nI p)), (6, .int (nI s3)), (7, .int (nI i))], [.int (nI p)], M1)) rfl rfl rfl ?_
          exact ps_reti rfl (Or.inr ⟨bc, K, I1, R1, by rw [← hs9, show by2 f p1 - i = 0 by omega]; rfl, by rw [← hu, show by2 f p1 - i = 0 by omega]; rfl, by rw [show e = p by (rw [show by2 f p1 - i = 0 by omega] at ha; exact (Option.some.inj ha).symm)], hR1, hEI1, hER1, hl71, hl66, hl65, hl68, hl69, hl70, hl72⟩)
        · have c_22 : ¬ ((nI (by2 f p1)) ≤ (nI i)) := of_decide_eq_false c_22
          have n_22 : ¬ (by2 f p1 ≤ i) := fun h9 => c_22 ((le_nI (p := by2 f p1) (n := i) (Nat.lt_trans (by2_lt _ _) (by decide)) (by omega)).mpr h9)
          obtain ⟨hq5, hq6, hq7⟩ := s_atE_in (i := i) (p := p) ha (by omega)
          refine ps_st (S' := (26, [(0, .ref m0), (2, .int 4), (3, .int (nI x)), (4, .int (nI (by2 f p1))), (5, .int (nI p)), (6, .int (nI s3)), (7, .int (nI i))], [.ref m0], M1)) rfl rfl rfl ?_
          refine ps_st (S' := (28, [(0, .ref m0), (2, .int 4), (3, .int (nI x)), (4, .int (nI (by2 f p1))), (5, .int (nI p)), (6, .int (nI s3)), (7, .int (nI i))], [.int (nI p), .ref m0], M1)) rfl rfl rfl ?_
          refine ps_st (S' := (29, [(0, .ref m0), (2, .int 4), (3, .int (nI x)), (4, .int (nI (by2 f p1))), (5, .int (nI p)), (6, .int (nI s3)), (7, .int (nI i))], [.int 2, .int (nI p), .ref m0], M1)) rfl rfl rfl ?_
          refine ps_st (S' := (30, [(0, .ref m0), (2, .int 4), (3, .int (nI x)), (4, .int (nI (by2 f p1))), (5, .int (nI p)), (6, .int (nI s3)), (7, .int (nI i))], [.int ((nI p) + 2), .ref m0], M1)) rfl rfl rfl ?_
          rw [nI_add1 (p := p) (k := 2) (x := 2) rfl (by omega)]
          show pl _ _ _ (_, [(0, .ref m0), (2, .int 4), (3, .int (nI x)), (4, .int (nI (by2 f p1))), (5, .int (nI p)), (6, .int (nI s3)), (7, .int (nI i))], [.int (nI (p + 2)), .ref m0], M1) _
          refine pl_call (a := [.ref m0, .int (nI (p + 2))]) (rest := []) rfl rfl rfl (rd_u4 (n := n) (f := f) (p := (p + 2)) hR1 hF1 (by omega)) (fun v1 M2 q3 => ?_)
          obtain ⟨rfl, rfl⟩ := q3
          show pl _ _ _ (33, [(0, .ref m0), (2, .int 4), (3, .int (nI x)), (4, .int (nI (by2 f p1))), (5, .int (nI p)), (6, .int (nI s3)), (7, .int (nI i))], [.long (nL (by4 f (p + 2)))], M1) _
          have hu_30 := by4_lt f (p + 2)
          refine ps_st (S' := (34, [(0, .ref m0), (2, .int 4), (3, .int (nI x)), (4, .int (nI (by2 f p1))), (5, .int (nI p)), (6, .int (nI s3)), (7, .int (nI i))], [.int (Int64.toInt32 (nL (by4 f (p + 2))))], M1)) rfl rfl rfl ?_
          rw [l2i_nL (p := by4 f (p + 2)) (by omega)]
          show pl _ _ _ (_, [(0, .ref m0), (2, .int 4), (3, .int (nI x)), (4, .int (nI (by2 f p1))), (5, .int (nI p)), (6, .int (nI s3)), (7, .int (nI i))], [.int (nI (by4 f (p + 2)))], M1) _
          refine ps_st (S' := (36, [(8, .int (nI (by4 f (p + 2)))), (0, .ref m0), (2, .int 4), (3, .int (nI x)), (4, .int (nI (by2 f p1))), (5, .int (nI p)), (6, .int (nI s3)), (7, .int (nI i))], [], M1)) rfl rfl rfl ?_
          refine ps_st (S' := (37, [(8, .int (nI (by4 f (p + 2)))), (0, .ref m0), (2, .int 4), (3, .int (nI x)), (4, .int (nI (by2 f p1))), (5, .int (nI p)), (6, .int (nI s3)), (7, .int (nI i))], [.ref m0], M1)) rfl rfl rfl ?_
          refine ps_st (S' := (38, [(8, .int (nI (by4 f (p + 2)))), (0, .ref m0), (2, .int 4), (3, .int (nI x)), (4, .int (nI (by2 f p1))), (5, .int (nI p)), (6, .int (nI s3)), (7, .int (nI i))], [.ref m0, .ref m0], M1)) rfl rfl rfl ?_
          refine ps_st (S' := (40, [(8, .int (nI (by4 f (p + 2)))), (0, .ref m0), (2, .int 4), (3, .int (nI x)), (4, .int (nI (by2 f p1))), (5, .int (nI p)), (6, .int (nI s3)), (7, .int (nI i))], [.int (nI p), .ref m0, .ref m0], M1)) rfl rfl rfl ?_
          refine pl_call (a := [.ref m0, .int (nI p)]) (rest := [.ref m0]) rfl rfl rfl (rd_u2 (n := n) (f := f) (p := p) hR1 hF1 (by omega)) (fun v4 M5 q6 => ?_)
          obtain ⟨rfl, rfl⟩ := q6
          show pl _ _ _ (43, [(8, .int (nI (by4 f (p + 2)))), (0, .ref m0), (2, .int 4), (3, .int (nI x)), (4, .int (nI (by2 f p1))), (5, .int (nI p)), (6, .int (nI s3)), (7, .int (nI i))], [.int (nI (by2 f p)), .ref m0], M1) _
          have hu_40 := by2_lt f p
          refine pl_call (a := [.ref m0, .int (nI (by2 f p))]) (rest := []) rfl rfl rfl (rd_tag (n := n) (f := f) (tx := tx) (cN := cN) (A := A) (N := N) (mj := mj) (E := E) (k := (by2 f p)) hR1 hl51 hl52 hl53 hF1 hY1 hP1 (hEP) (hN) (hmj) (by2_lt _ _)) (fun v7 M8 q9 => ?_)
          obtain ⟨rfl, rfl⟩ := q9
          show pl _ _ _ (46, [(8, .int (nI (by4 f (p + 2)))), (0, .ref m0), (2, .int 4), (3, .int (nI x)), (4, .int (nI (by2 f p1))), (5, .int (nI p)), (6, .int (nI s3)), (7, .int (nI i))], [.int (nI (tg f E (by2 f p)))], M1) _
          have htg_43 := tg_lt f E (by2 f p)
          refine ps_st (S' := (47, [(8, .int (nI (by4 f (p + 2)))), (0, .ref m0), (2, .int 4), (3, .int (nI x)), (4, .int (nI (by2 f p1))), (5, .int (nI p)), (6, .int (nI s3)), (7, .int (nI i))], [.int 1, .int (nI (tg f E (by2 f p)))], M1)) rfl rfl rfl ?_
          refine ps_if2 (S1 := (61, [(8, .int (nI (by4 f (p + 2)))), (0, .ref m0), (2, .int 4), (3, .int (nI x)), (4, .int (nI (by2 f p1))), (5, .int (nI p)), (6, .int (nI s3)), (7, .int (nI i))], [], M1)) (S2 := (50, [(8, .int (nI (by4 f (p + 2)))), (0, .ref m0), (2, .int 4), (3, .int (nI x)), (4, .int (nI (by2 f p1))), (5, .int (nI p)), (6, .int (nI s3)), (7, .int (nI i))], [], M1)) rfl rfl rfl (fun c_47 => ?_) (fun c_47 => ?_)
          · have c_47 : (nI (tg f E (by2 f p))) = 1 := of_decide_eq_true c_47
            have n_47 : tg f E (by2 f p) = 1 := (eq_nI (p := tg f E (by2 f p)) (n := 1) (Nat.lt_trans (tg_lt _ _ _) (by decide)) (by decide)).mp c_47
            refine ps_st (S' := (62, [(8, .int (nI (by4 f (p + 2)))), (0, .ref m0), (2, .int 4), (3, .int (nI x)), (4, .int (nI (by2 f p1))), (5, .int (nI p)), (6, .int (nI s3)), (7, .int (nI i))], [.ref m0], M1)) rfl rfl rfl ?_
            refine ps_st (S' := (63, [(8, .int (nI (by4 f (p + 2)))), (0, .ref m0), (2, .int 4), (3, .int (nI x)), (4, .int (nI (by2 f p1))), (5, .int (nI p)), (6, .int (nI s3)), (7, .int (nI i))], [.ref m0, .ref m0], M1)) rfl rfl rfl ?_
            refine ps_st (S' := (65, [(8, .int (nI (by4 f (p + 2)))), (0, .ref m0), (2, .int 4), (3, .int (nI x)), (4, .int (nI (by2 f p1))), (5, .int (nI p)), (6, .int (nI s3)), (7, .int (nI i))], [.int (nI p), .ref m0, .ref m0], M1)) rfl rfl rfl ?_
            refine pl_call (a := [.ref m0, .int (nI p)]) (rest := [.ref m0]) rfl rfl rfl (rd_u2 (n := n) (f := f) (p := p) hR1 hF1 (by omega)) (fun v10 M11 q12 => ?_)
            obtain ⟨rfl, rfl⟩ := q12
            show pl _ _ _ (68, [(8, .int (nI (by4 f (p + 2)))), (0, .ref m0), (2, .int 4), (3, .int (nI x)), (4, .int (nI (by2 f p1))), (5, .int (nI p)), (6, .int (nI s3)), (7, .int (nI i))], [.int (nI (by2 f p)), .ref m0], M1) _
            have hu_65 := by2_lt f p
            refine pl_call (a := [.ref m0, .int (nI (by2 f p))]) (rest := []) rfl rfl rfl (rd_symOf (n := n) (f := f) (tx := tx) (cN := cN) (A := A) (N := N) (mj := mj) (E := E) (k := (by2 f p)) hR1 hl51 hl52 hl53 hF1 hY1 hP1 (hEP) (hN) (hmj) (by omega)) (fun v13 M14 q15 => ?_)
            obtain ⟨s16, q68_s, rfl, rfl⟩ := q15
            show pl _ _ _ (71, [(8, .int (nI (by4 f (p + 2)))), (0, .ref m0), (2, .int 4), (3, .int (nI x)), (4, .int (nI (by2 f p1))), (5, .int (nI p)), (6, .int (nI s3)), (7, .int (nI i))], [.int (nI s16)], M1) _
            have hsl_68 := q68_s.1
            have htl_68 := hY1.1.2.2.1
            refine ps_st (S' := (73, [(9, .int (nI s16)), (8, .int (nI (by4 f (p + 2)))), (0, .ref m0), (2, .int 4), (3, .int (nI x)), (4, .int (nI (by2 f p1))), (5, .int (nI p)), (6, .int (nI s3)), (7, .int (nI i))], [], M1)) rfl rfl rfl ?_
            refine ps_st (S' := (74, [(9, .int (nI s16)), (8, .int (nI (by4 f (p + 2)))), (0, .ref m0), (2, .int 4), (3, .int (nI x)), (4, .int (nI (by2 f p1))), (5, .int (nI p)), (6, .int (nI s3)), (7, .int (nI i))], [.int (-1)], M1)) rfl rfl rfl ?_
            refine ps_st (S' := (76, [(10, .int (-1)), (9, .int (nI s16)), (8, .int (nI (by4 f (p + 2)))), (0, .ref m0), (2, .int 4), (3, .int (nI x)), (4, .int (nI (by2 f p1))), (5, .int (nI p)), (6, .int (nI s3)), (7, .int (nI i))], [], M1)) rfl rfl rfl ?_
            refine ps_st (S' := (77, [(10, .int (-1)), (9, .int (nI s16)), (8, .int (nI (by4 f (p + 2)))), (0, .ref m0), (2, .int 4), (3, .int (nI x)), (4, .int (nI (by2 f p1))), (5, .int (nI p)), (6, .int (nI s3)), (7, .int (nI i))], [.int 0], M1)) rfl rfl rfl ?_
            refine ps_st (S' := (79, [(0, .ref m0), (2, .int 4), (3, .int (nI x)), (4, .int (nI (by2 f p1))), (5, .int (nI p)), (6, .int (nI s3)), (7, .int (nI i)), (8, .int (nI (by4 f (p + 2)))), (9, .int (nI s16)), (10, .int (-1)), (11, .int 0)], [], M1)) rfl rfl rfl ?_
            exact ih.2 (i) (p) (s2) (s3) (0) (s16) (bc) (K) M1 I1 R1 hR1 hEI1 hER1 hl51 hl52 hl53 hl58 hl71 hl66 hl65 hl68 hl69 hl70 hl72 hF1 hY1 hP1 hK1 (by omega) (hl) (hb) (ha) (hs9) (hu) (hkn) (by omega) (by omega) (q68_s)
          · have c_47 : ¬ ((nI (tg f E (by2 f p))) = 1) := of_decide_eq_false c_47
            have n_47 : ¬ (tg f E (by2 f p) = 1) := fun h9 => c_47 ((eq_nI (p := tg f E (by2 f p)) (n := 1) (Nat.lt_trans (tg_lt _ _ _) (by decide)) (by decide)).mpr h9)
            refine ps_st (S' := (51, [(8, .int (nI (by4 f (p + 2)))), (0, .ref m0), (2, .int 4), (3, .int (nI x)), (4, .int (nI (by2 f p1))), (5, .int (nI p)), (6, .int (nI s3)), (7, .int (nI i))], [.ref m0], M1)) rfl rfl rfl ?_
            refine ps_st (S' := (53, [(8, .int (nI (by4 f (p + 2)))), (0, .ref m0), (2, .int 4), (3, .int (nI x)), (4, .int (nI (by2 f p1))), (5, .int (nI p)), (6, .int (nI s3)), (7, .int (nI i))], [.int 28, .ref m0], M1)) rfl rfl rfl ?_
            refine ps_st (S' := (55, [(8, .int (nI (by4 f (p + 2)))), (0, .ref m0), (2, .int 4), (3, .int (nI x)), (4, .int (nI (by2 f p1))), (5, .int (nI p)), (6, .int (nI s3)), (7, .int (nI i))], [.int (nI p), .int 28, .ref m0], M1)) rfl rfl rfl ?_
            refine pl_call (a := [.ref m0, .int 28, .int (nI p)]) (rest := []) rfl rfl rfl (rd_wrong (x1 := 28) (x2 := (nI p)) hR1) (fun v17 M18 q19 => ?_)
            obtain ⟨I20, R21, rfl, hR22, hI23, hX24, hi25, hi26⟩ := q19
            have hi27 := (hI23 51 (by decide)).trans hl51
            have hi28 := (hI23 52 (by decide)).trans hl52
            have hi29 := (hI23 53 (by decide)).trans hl53
            have hi30 := (hI23 58 (by decide)).trans hl58
            have hi31 := (hI23 71 (by decide)).trans hl71
            have hi32 := (hI23 66 (by decide)).trans hl66
            have hi33 := (hI23 65 (by decide)).trans hl65
            have hi34 := (hI23 68 (by decide)).trans hl68
            have hi35 := (hI23 69 (by decide)).trans hl69
            have hi36 := (hI23 70 (by decide)).trans hl70
            have hi37 := (hI23 72 (by decide)).trans hl72
            have hF_38 := hF1.mono (cIx hI23 (by decide)) (cRx hX24 (by decide))
            have hY_39 := hY1.mono (cIx hI23 (by decide)) (cRx hX24 (by decide))
            have hP_40 := hP1.mono (cIx hI23 (by decide)) (cRx hX24 (by decide))
            have hK_41 := hK1.mono (cIx hI23 (by decide)) (cRx hX24 (by decide))
            have hEI42 := hEI1.tr hI23 (by decide)
            have hER43 := hER1.tr hX24 (by decide)
            show pl _ _ _ (58, [(8, .int (nI (by4 f (p + 2)))), (0, .ref m0), (2, .int 4), (3, .int (nI x)), (4, .int (nI (by2 f p1))), (5, .int (nI p)), (6, .int (nI s3)), (7, .int (nI i))], [.int 0], M18) _
            refine ps_st (S' := (59, [(8, .int (nI (by4 f (p + 2)))), (0, .ref m0), (2, .int 4), (3, .int (nI x)), (4, .int (nI (by2 f p1))), (5, .int (nI p)), (6, .int (nI s3)), (7, .int (nI i))], [], M18)) rfl rfl rfl ?_
            refine ps_st (S' := (60, [(8, .int (nI (by4 f (p + 2)))), (0, .ref m0), (2, .int 4), (3, .int (nI x)), (4, .int (nI (by2 f p1))), (5, .int (nI p)), (6, .int (nI s3)), (7, .int (nI i))], [.int (-1)], M18)) rfl rfl rfl ?_
            exact ps_ret rfl rfl (Or.inl ⟨(28, p), I20, R21, by
                rw [← hs9, clS_28 (i := i) (p := p) (s := s2) (by omega) (by omega)], rfl, hR22, hEI42, hER43, hi25, hi26⟩)
      · skip
        intro i p s2 s3 k t bc K M1 I1 R1 hR1 hEI1 hER1 hl51 hl52 hl53 hl58 hl71 hl66 hl65 hl68 hl69 hl70 hl72 hF1 hY1 hP1 hK1 hi0 hl hb ha hs9 hu hkn hk h1 hsy
        have hn := hF1.1
        have hu9 := by2_lt f p1
        have htl := hY1.1.2.2.1
        obtain ⟨hq5, hq6, hq7⟩ := s_atE_in (i := i) (p := p) ha hi0
        refine ps_st1 (S' := (81, [(0, .ref m0), (2, .int 4), (3, .int (nI x)), (4, .int (nI (by2 f p1))), (5, .int (nI p)), (6, .int (nI s3)), (7, .int (nI i)), (8, .int (nI (by4 f (p + 2)))), (9, .int (nI t)), (10, .int (gI (kb mj 4 (tX f n E (by2 f p)) k))), (11, .int (nI k))], [.int (nI k)], M1)) rfl rfl rfl ?_
        refine ps_st (S' := (82, [(0, .ref m0), (2, .int 4), (3, .int (nI x)), (4, .int (nI (by2 f p1))), (5, .int (nI p)), (6, .int (nI s3)), (7, .int (nI i)), (8, .int (nI (by4 f (p + 2)))), (9, .int (nI t)), (10, .int (gI (kb mj 4 (tX f n E (by2 f p)) k))), (11, .int (nI k))], [.ref m0, .int (nI k)], M1)) rfl rfl rfl ?_
        refine pr_ref (j := 62) (S' := (85, [(0, .ref m0), (2, .int 4), (3, .int (nI x)), (4, .int (nI (by2 f p1))), (5, .int (nI p)), (6, .int (nI s3)), (7, .int (nI i)), (8, .int (nI (by4 f (p + 2)))), (9, .int (nI t)), (10, .int (gI (kb mj 4 (tX f n E (by2 f p)) k))), (11, .int (nI k))], [.ref (q 62), .int (nI k)], M1)) rfl hR1 rfl rfl ?_
        refine pr_knl (S' := (86, [(0, .ref m0), (2, .int 4), (3, .int (nI x)), (4, .int (nI (by2 f p1))), (5, .int (nI p)), (6, .int (nI s3)), (7, .int (nI i)), (8, .int (nI (by4 f (p + 2)))), (9, .int (nI t)), (10, .int (gI (kb mj 4 (tX f n E (by2 f p)) k))), (11, .int (nI k))], [.int (nI 10), .int (nI k)], M1)) rfl hR1 rfl ?_
        refine ps_if2 (S1 := (140, [(0, .ref m0), (2, .int 4), (3, .int (nI x)), (4, .int (nI (by2 f p1))), (5, .int (nI p)), (6, .int (nI s3)), (7, .int (nI i)), (8, .int (nI (by4 f (p + 2)))), (9, .int (nI t)), (10, .int (gI (kb mj 4 (tX f n E (by2 f p)) k))), (11, .int (nI k))], [], M1)) (S2 := (89, [(0, .ref m0), (2, .int 4), (3, .int (nI x)), (4, .int (nI (by2 f p1))), (5, .int (nI p)), (6, .int (nI s3)), (7, .int (nI i)), (8, .int (nI (by4 f (p + 2)))), (9, .int (nI t)), (10, .int (gI (kb mj 4 (tX f n E (by2 f p)) k))), (11, .int (nI k))], [], M1)) rfl rfl rfl (fun c_86 => ?_) (fun c_86 => ?_)
        · have c_86 : (nI 10) ≤ (nI k) := of_decide_eq_true c_86
          have n_86 : 10 ≤ k := (le_nI (p := 10) (n := k) (by decide) (by omega)).mp c_86
          have ek : k = 10 := by omega
          refine ps_st (S' := (142, [(0, .ref m0), (2, .int 4), (3, .int (nI x)), (4, .int (nI (by2 f p1))), (5, .int (nI p)), (6, .int (nI s3)), (7, .int (nI i)), (8, .int (nI (by4 f (p + 2)))), (9, .int (nI t)), (10, .int (gI (kb mj 4 (tX f n E (by2 f p)) k))), (11, .int (nI k))], [.int (gI (kb mj 4 (tX f n E (by2 f p)) k))], M1)) rfl rfl rfl ?_
          refine ps_if (S1 := (268, [(0, .ref m0), (2, .int 4), (3, .int (nI x)), (4, .int (nI (by2 f p1))), (5, .int (nI p)), (6, .int (nI s3)), (7, .int (nI i)), (8, .int (nI (by4 f (p + 2))))], [], M1)) (S2 := (145, [(0, .ref m0), (2, .int 4), (3, .int (nI x)), (4, .int (nI (by2 f p1))), (5, .int (nI p)), (6, .int (nI s3)), (7, .int (nI i)), (8, .int (nI (by4 f (p + 2)))), (9, .int (nI t)), (10, .int (gI (kb mj 4 (tX f n E (by2 f p)) k))), (11, .int (nI k))], [], M1)) rfl rfl rfl (fun c_142 => ?_) (fun c_142 => ?_)
          · have c_142 : (gI (kb mj 4 (tX f n E (by2 f p)) k)) < 0 := of_decide_eq_true c_142
            rw [ek] at c_142
            have hsm := ck_n c_142
            refine ps_st (S' := (270, [(0, .ref m0), (2, .int 4), (3, .int (nI x)), (4, .int (nI (by2 f p1))), (5, .int (nI p)), (6, .int (nI s3)), (7, .int (nI i)), (8, .int (nI (by4 f (p + 2))))], [.int (nI p)], M1)) rfl rfl rfl ?_
            refine ps_st (S' := (272, [(0, .ref m0), (2, .int 4), (3, .int (nI x)), (4, .int (nI (by2 f p1))), (5, .int (nI p)), (6, .int (nI s3)), (7, .int (nI i)), (8, .int (nI (by4 f (p + 2))))], [.int 6, .int (nI p)], M1)) rfl rfl rfl ?_
            refine ps_st (S' := (274, [(0, .ref m0), (2, .int 4), (3, .int (nI x)), (4, .int (nI (by2 f p1))), (5, .int (nI p)), (6, .int (nI s3)), (7, .int (nI i)), (8, .int (nI (by4 f (p + 2))))], [.int (nI (by4 f (p + 2))), .int 6, .int (nI p)], M1)) rfl rfl rfl ?_
            refine ps_st (S' := (275, [(0, .ref m0), (2, .int 4), (3, .int (nI x)), (4, .int (nI (by2 f p1))), (5, .int (nI p)), (6, .int (nI s3)), (7, .int (nI i)), (8, .int (nI (by4 f (p + 2))))], [.int (6 + (nI (by4 f (p + 2)))), .int (nI p)], M1)) rfl rfl rfl ?_
            rw [nI_add2 (p := 6) (k := by4 f (p + 2)) (x := 6) (y := (nI (by4 f (p + 2)))) rfl rfl (by omega)]
            show pl _ _ _ (_, [(0, .ref m0), (2, .int 4), (3, .int (nI x)), (4, .int (nI (by2 f p1))), (5, .int (nI p)), (6, .int (nI s3)), (7, .int (nI i)), (8, .int (nI (by4 f (p + 2))))], [.int (nI (6 + by4 f (p + 2))), .int (nI p)], M1) _
            refine ps_st (S' := (276, [(0, .ref m0), (2, .int 4), (3, .int (nI x)), (4, .int (nI (by2 f p1))), (5, .int (nI p)), (6, .int (nI s3)), (7, .int (nI i)), (8, .int (nI (by4 f (p + 2))))], [.int ((nI p) + (nI (6 + by4 f (p + 2))))], M1)) rfl rfl rfl ?_
            rw [nI_add1 (p := p) (k := 6 + by4 f (p + 2)) (x := (nI (6 + by4 f (p + 2)))) rfl (by omega)]
            rw [show nI (p + (6 + by4 f (p + 2))) = nI (p + 6 + by4 f (p + 2)) from congrArg nI (by omega)]
            show pl _ _ _ (_, [(0, .ref m0), (2, .int 4), (3, .int (nI x)), (4, .int (nI (by2 f p1))), (5, .int (nI p)), (6, .int (nI s3)), (7, .int (nI i)), (8, .int (nI (by4 f (p + 2))))], [.int (nI (p + 6 + by4 f (p + 2)))], M1) _
            refine ps_st (S' := (278, [(5, .int (nI (p + 6 + by4 f (p + 2)))), (0, .ref m0), (2, .int 4), (3, .int (nI x)), (4, .int (nI (by2 f p1))), (6, .int (nI s3)), (7, .int (nI i)), (8, .int (nI (by4 f (p + 2))))], [], M1)) rfl rfl rfl ?_
            refine ps_st (S' := (281, [(7, .int ((nI i) + 1)), (5, .int (nI (p + 6 + by4 f (p + 2)))), (0, .ref m0), (2, .int 4), (3, .int (nI x)), (4, .int (nI (by2 f p1))), (6, .int (nI s3)), (8, .int (nI (by4 f (p + 2))))], [], M1)) rfl rfl rfl ?_
            rw [nI_add1 (p := i) (k := 1) (x := 1) rfl (by omega)]
            show pl _ _ _ (_, [(7, .int (nI (i + 1))), (5, .int (nI (p + 6 + by4 f (p + 2)))), (0, .ref m0), (2, .int 4), (3, .int (nI x)), (4, .int (nI (by2 f p1))), (6, .int (nI s3)), (8, .int (nI (by4 f (p + 2))))], [], M1) _
            refine ps_st (S' := (18, [(0, .ref m0), (2, .int 4), (3, .int (nI x)), (4, .int (nI (by2 f p1))), (5, .int (nI (p + 6 + by4 f (p + 2)))), (6, .int (nI s3)), (7, .int (nI (i + 1)))], [], M1)) rfl rfl rfl ?_
            exact ih.1 (i + 1) (p + 6 + by4 f (p + 2)) (s2) (s3) (bc) (K) M1 I1 R1 hR1 hEI1 hER1 hl51 hl52 hl53 hl58 hl71 hl66 hl65 hl68 hl69 hl70 hl72 hF1 hY1 hP1 hK1 (by omega) (hl) (hb) (hq7) (by
                rw [← hs9, clS_u (i := i) (p := p) (s := s2) hi0 h1 hsm]) (by
                rw [← hu, clU_st (i := i) hi0, hsm, stU_0]) (by omega)
          · have c_142 : ¬ ((gI (kb mj 4 (tX f n E (by2 f p)) k)) < 0) := of_decide_eq_false c_142
            rw [ek] at c_142
            obtain ⟨w, hw1, hw2, hsm⟩ := ck_y c_142
            have hws := hb w hw2.1 hw2.2
            have hb2 := sb_lt s3 w
            rw [show gI (kb mj 4 (tX f n E (by2 f p)) k) = nI w by rw [ek, hw1]; rfl]
            show pl _ _ _ (145, [(0, .ref m0), (2, .int 4), (3, .int (nI x)), (4, .int (nI (by2 f p1))), (5, .int (nI p)), (6, .int (nI s3)), (7, .int (nI i)), (8, .int (nI (by4 f (p + 2)))), (9, .int (nI t)), (10, .int (nI w)), (11, .int (nI k))], [], M1) _
            refine ps_st (S' := (146, [(0, .ref m0), (2, .int 4), (3, .int (nI x)), (4, .int (nI (by2 f p1))), (5, .int (nI p)), (6, .int (nI s3)), (7, .int (nI i)), (8, .int (nI (by4 f (p + 2)))), (9, .int (nI t)), (10, .int (nI w)), (11, .int (nI k))], [.int 4], M1)) rfl rfl rfl ?_
            refine ps_st (S' := (147, [(0, .ref m0), (2, .int 4), (3, .int (nI x)), (4, .int (nI (by2 f p1))), (5, .int (nI p)), (6, .int (nI s3)), (7, .int (nI i)), (8, .int (nI (by4 f (p + 2)))), (9, .int (nI t)), (10, .int (nI w)), (11, .int (nI k))], [.int 1, .int 4], M1)) rfl rfl rfl ?_
            refine ps_if2 (S1 := (160, [(0, .ref m0), (2, .int 4), (3, .int (nI x)), (4, .int (nI (by2 f p1))), (5, .int (nI p)), (6, .int (nI s3)), (7, .int (nI i)), (8, .int (nI (by4 f (p + 2)))), (10, .int (nI w))], [], M1)) (S2 := (150, [(0, .ref m0), (2, .int 4), (3, .int (nI x)), (4, .int (nI (by2 f p1))), (5, .int (nI p)), (6, .int (nI s3)), (7, .int (nI i)), (8, .int (nI (by4 f (p + 2)))), (9, .int (nI t)), (10, .int (nI w)), (11, .int (nI k))], [], M1)) rfl rfl rfl (fun c_147 => ?_) (fun c_147 => ?_)
            rotate_left
            · exact absurd (by decide) (of_decide_eq_false c_147)
            refine ps_st (S' := (161, [(0, .ref m0), (2, .int 4), (3, .int (nI x)), (4, .int (nI (by2 f p1))), (5, .int (nI p)), (6, .int (nI s3)), (7, .int (nI i)), (8, .int (nI (by4 f (p + 2)))), (10, .int (nI w))], [.int 4], M1)) rfl rfl rfl ?_
            refine ps_st (S' := (162, [(0, .ref m0), (2, .int 4), (3, .int (nI x)), (4, .int (nI (by2 f p1))), (5, .int (nI p)), (6, .int (nI s3)), (7, .int (nI i)), (8, .int (nI (by4 f (p + 2)))), (10, .int (nI w))], [.int 2, .int 4], M1)) rfl rfl rfl ?_
            refine ps_if2 (S1 := (175, [(0, .ref m0), (2, .int 4), (3, .int (nI x)), (4, .int (nI (by2 f p1))), (5, .int (nI p)), (6, .int (nI s3)), (7, .int (nI i)), (8, .int (nI (by4 f (p + 2)))), (10, .int (nI w))], [], M1)) (S2 := (165, [(0, .ref m0), (2, .int 4), (3, .int (nI x)), (4, .int (nI (by2 f p1))), (5, .int (nI p)), (6, .int (nI s3)), (7, .int (nI i)), (8, .int (nI (by4 f (p + 2)))), (10, .int (nI w))], [], M1)) rfl rfl rfl (fun c_162 => ?_) (fun c_162 => ?_)
            rotate_left
            · exact absurd (by decide) (of_decide_eq_false c_162)
            refine ps_st (S' := (176, [(0, .ref m0), (2, .int 4), (3, .int (nI x)), (4, .int (nI (by2 f p1))), (5, .int (nI p)), (6, .int (nI s3)), (7, .int (nI i)), (8, .int (nI (by4 f (p + 2)))), (10, .int (nI w))], [.int 4], M1)) rfl rfl rfl ?_
            refine ps_st (S' := (177, [(0, .ref m0), (2, .int 4), (3, .int (nI x)), (4, .int (nI (by2 f p1))), (5, .int (nI p)), (6, .int (nI s3)), (7, .int (nI i)), (8, .int (nI (by4 f (p + 2)))), (10, .int (nI w))], [.int 4, .int 4], M1)) rfl rfl rfl ?_
            refine ps_if2 (S1 := (190, [(0, .ref m0), (2, .int 4), (3, .int (nI x)), (4, .int (nI (by2 f p1))), (5, .int (nI p)), (6, .int (nI s3)), (7, .int (nI i)), (8, .int (nI (by4 f (p + 2)))), (10, .int (nI w))], [], M1)) (S2 := (180, [(0, .ref m0), (2, .int 4), (3, .int (nI x)), (4, .int (nI (by2 f p1))), (5, .int (nI p)), (6, .int (nI s3)), (7, .int (nI i)), (8, .int (nI (by4 f (p + 2)))), (10, .int (nI w))], [], M1)) rfl rfl rfl (fun c_177 => ?_) (fun c_177 => ?_)
            · exact absurd (of_decide_eq_true c_177) (by decide)
            refine ps_st (S' := (181, [(0, .ref m0), (2, .int 4), (3, .int (nI x)), (4, .int (nI (by2 f p1))), (5, .int (nI p)), (6, .int (nI s3)), (7, .int (nI i)), (8, .int (nI (by4 f (p + 2)))), (10, .int (nI w))], [.ref m0], M1)) rfl rfl rfl ?_
            refine ps_st (S' := (182, [(0, .ref m0), (2, .int 4), (3, .int (nI x)), (4, .int (nI (by2 f p1))), (5, .int (nI p)), (6, .int (nI s3)), (7, .int (nI i)), (8, .int (nI (by4 f (p + 2)))), (10, .int (nI w))], [.ref m0, .ref m0], M1)) rfl rfl rfl ?_
            refine pr_int (j := 66) (S' := (185, [(0, .ref m0), (2, .int 4), (3, .int (nI x)), (4, .int (nI (by2 f p1))), (5, .int (nI p)), (6, .int (nI s3)), (7, .int (nI i)), (8, .int (nI (by4 f (p + 2)))), (10, .int (nI w))], [.int (nI K.1), .ref m0], M1)) rfl hR1 rfl hl66 rfl ?_
            refine ps_st (S' := (186, [(0, .ref m0), (2, .int 4), (3, .int (nI x)), (4, .int (nI (by2 f p1))), (5, .int (nI p)), (6, .int (nI s3)), (7, .int (nI i)), (8, .int (nI (by4 f (p + 2)))), (10, .int (nI w))], [.int 1, .int (nI K.1), .ref m0], M1)) rfl rfl rfl ?_
            refine ps_st (S' := (187, [(0, .ref m0), (2, .int 4), (3, .int (nI x)), (4, .int (nI (by2 f p1))), (5, .int (nI p)), (6, .int (nI s3)), (7, .int (nI i)), (8, .int (nI (by4 f (p + 2)))), (10, .int (nI w))], [.int ((nI K.1) + 1), .ref m0], M1)) rfl rfl rfl ?_
            rw [nI_add1 (p := K.1) (k := 1) (x := 1) rfl (by omega)]
            show pl _ _ _ (_, [(0, .ref m0), (2, .int 4), (3, .int (nI x)), (4, .int (nI (by2 f p1))), (5, .int (nI p)), (6, .int (nI s3)), (7, .int (nI i)), (8, .int (nI (by4 f (p + 2)))), (10, .int (nI w))], [.int (nI (K.1 + 1)), .ref m0], M1) _
            refine pr_put (j := 66) rfl hR1 rfl (fun M44 I45 hR46 hi47 hI48 => ?_)
            have hi49 := (hI48 51 (by decide)).trans hl51
            have hi50 := (hI48 52 (by decide)).trans hl52
            have hi54 := (hI48 53 (by decide)).trans hl53
            have hi55 := (hI48 58 (by decide)).trans hl58
            have hi56 := (hI48 71 (by decide)).trans hl71
            have hi57 := (hI48 65 (by decide)).trans hl65
            have hi59 := (hI48 68 (by decide)).trans hl68
            have hi60 := (hI48 69 (by decide)).trans hl69
            have hi61 := (hI48 70 (by decide)).trans hl70
            have hi62 := (hI48 72 (by decide)).trans hl72
            have hF_63 := hF1.mono (pIx hI48 (by decide)) (fun _ _ => rfl)
            have hY_64 := hY1.mono (pIx hI48 (by decide)) (fun _ _ => rfl)
            have hP_65 := hP1.mono (pIx hI48 (by decide)) (fun _ _ => rfl)
            have hK_66 := hK1.mono (pIx hI48 (by decide)) (fun _ _ => rfl)
            have hEI67 := hEI1.put hI48 (by decide)
            show pl _ _ _ (190, [(0, .ref m0), (2, .int 4), (3, .int (nI x)), (4, .int (nI (by2 f p1))), (5, .int (nI p)), (6, .int (nI s3)), (7, .int (nI i)), (8, .int (nI (by4 f (p + 2)))), (10, .int (nI w))], [], M44) _
            refine ps_st (S' := (192, [(0, .ref m0), (2, .int 4), (3, .int (nI x)), (4, .int (nI (by2 f p1))), (5, .int (nI p)), (6, .int (nI s3)), (7, .int (nI i)), (8, .int (nI (by4 f (p + 2)))), (10, .int (nI w))], [.int (nI s3)], M44)) rfl rfl rfl ?_
            refine ps_st (S' := (194, [(0, .ref m0), (2, .int 4), (3, .int (nI x)), (4, .int (nI (by2 f p1))), (5, .int (nI p)), (6, .int (nI s3)), (7, .int (nI i)), (8, .int (nI (by4 f (p + 2)))), (10, .int (nI w))], [.int (nI w), .int (nI s3)], M44)) rfl rfl rfl ?_
            refine ps_st (S' := (195, [(0, .ref m0), (2, .int 4), (3, .int (nI x)), (4, .int (nI (by2 f p1))), (5, .int (nI p)), (6, .int (nI s3)), (7, .int (nI i)), (8, .int (nI (by4 f (p + 2)))), (10, .int (nI w))], [.int ((nI s3) >>> ((nI w) &&& 31))], M44)) rfl rfl rfl ?_
            refine ps_st (S' := (196, [(0, .ref m0), (2, .int 4), (3, .int (nI x)), (4, .int (nI (by2 f p1))), (5, .int (nI p)), (6, .int (nI s3)), (7, .int (nI i)), (8, .int (nI (by4 f (p + 2)))), (10, .int (nI w))], [.int 1, .int ((nI s3) >>> ((nI w) &&& 31))], M44)) rfl rfl rfl ?_
            refine ps_st (S' := (197, [(0, .ref m0), (2, .int 4), (3, .int (nI x)), (4, .int (nI (by2 f p1))), (5, .int (nI p)), (6, .int (nI s3)), (7, .int (nI i)), (8, .int (nI (by4 f (p + 2)))), (10, .int (nI w))], [.int (((nI s3) >>> ((nI w) &&& 31)) &&& 1)], M44)) rfl rfl rfl ?_
            rw [shr_k s3 (by omega) w (by omega)]
            show pl _ _ _ (_, [(0, .ref m0), (2, .int 4), (3, .int (nI x)), (4, .int (nI (by2 f p1))), (5, .int (nI p)), (6, .int (nI s3)), (7, .int (nI i)), (8, .int (nI (by4 f (p + 2)))), (10, .int (nI w))], [.int (nI (sb s3 w))], M44) _
            refine ps_st (S' := (198, [(0, .ref m0), (2, .int 4), (3, .int (nI x)), (4, .int (nI (by2 f p1))), (5, .int (nI p)), (6, .int (nI s3)), (7, .int (nI i)), (8, .int (nI (by4 f (p + 2)))), (10, .int (nI w))], [.int 1, .int (nI (sb s3 w))], M44)) rfl rfl rfl ?_
            refine ps_if2 (S1 := (212, [(0, .ref m0), (2, .int 4), (3, .int (nI x)), (4, .int (nI (by2 f p1))), (5, .int (nI p)), (6, .int (nI s3)), (7, .int (nI i)), (8, .int (nI (by4 f (p + 2)))), (10, .int (nI w))], [], M44)) (S2 := (201, [(0, .ref m0), (2, .int 4), (3, .int (nI x)), (4, .int (nI (by2 f p1))), (5, .int (nI p)), (6, .int (nI s3)), (7, .int (nI i)), (8, .int (nI (by4 f (p + 2)))), (10, .int (nI w))], [], M44)) rfl rfl rfl (fun c_198 => ?_) (fun c_198 => ?_)
            · have c_198 : ¬ (nI (sb s3 w)) = 1 := of_decide_eq_true c_198
              have n_198 : ¬ (sb s3 w = 1) := fun h9 => c_198 ((eq_nI (p := sb s3 w) (n := 1) (Nat.lt_trans (sb_lt _ _) (by decide)) (by decide)).mpr h9)
              refine ps_st (S' := (213, [(0, .ref m0), (2, .int 4), (3, .int (nI x)), (4, .int (nI (by2 f p1))), (5, .int (nI p)), (6, .int (nI s3)), (7, .int (nI i)), (8, .int (nI (by4 f (p + 2)))), (10, .int (nI w))], [.ref m0], M44)) rfl rfl rfl ?_
              refine ps_st (S' := (215, [(0, .ref m0), (2, .int 4), (3, .int (nI x)), (4, .int (nI (by2 f p1))), (5, .int (nI p)), (6, .int (nI s3)), (7, .int (nI i)), (8, .int (nI (by4 f (p + 2)))), (10, .int (nI w))], [.int (nI w), .ref m0], M44)) rfl rfl rfl ?_
              refine ps_st (S' := (217, [(0, .ref m0), (2, .int 4), (3, .int (nI x)), (4, .int (nI (by2 f p1))), (5, .int (nI p)), (6, .int (nI s3)), (7, .int (nI i)), (8, .int (nI (by4 f (p + 2)))), (10, .int (nI w))], [.int (nI p), .int (nI w), .ref m0], M44)) rfl rfl rfl ?_
              refine ps_st (S' := (219, [(0, .ref m0), (2, .int 4), (3, .int (nI x)), (4, .int (nI (by2 f p1))), (5, .int (nI p)), (6, .int (nI s3)), (7, .int (nI i)), (8, .int (nI (by4 f (p + 2)))), (10, .int (nI w))], [.int (nI p), .int (nI p), .int (nI w), .ref m0], M44)) rfl rfl rfl ?_
              refine ps_st (S' := (221, [(0, .ref m0), (2, .int 4), (3, .int (nI x)), (4, .int (nI (by2 f p1))), (5, .int (nI p)), (6, .int (nI s3)), (7, .int (nI i)), (8, .int (nI (by4 f (p + 2)))), (10, .int (nI w))], [.int 6, .int (nI p), .int (nI p), .int (nI w), .ref m0], M44)) rfl rfl rfl ?_
              refine ps_st (S' := (222, [(0, .ref m0), (2, .int 4), (3, .int (nI x)), (4, .int (nI (by2 f p1))), (5, .int (nI p)), (6, .int (nI s3)), (7, .int (nI i)), (8, .int (nI (by4 f (p + 2)))), (10, .int (nI w))], [.int ((nI p) + 6), .int (nI p), .int (nI w), .ref m0], M44)) rfl rfl rfl ?_
              rw [nI_add1 (p := p) (k := 6) (x := 6) rfl (by omega)]
              show pl _ _ _ (_, [(0, .ref m0), (2, .int 4), (3, .int (nI x)), (4, .int (nI (by2 f p1))), (5, .int (nI p)), (6, .int (nI s3)), (7, .int (nI i)), (8, .int (nI (by4 f (p + 2)))), (10, .int (nI w))], [.int (nI (p + 6)), .int (nI p), .int (nI w), .ref m0], M44) _
              refine ps_st (S' := (224, [(0, .ref m0), (2, .int 4), (3, .int (nI x)), (4, .int (nI (by2 f p1))), (5, .int (nI p)), (6, .int (nI s3)), (7, .int (nI i)), (8, .int (nI (by4 f (p + 2)))), (10, .int (nI w))], [.int (nI p), .int (nI (p + 6)), .int (nI p), .int (nI w), .ref m0], M44)) rfl rfl rfl ?_
              refine ps_st (S' := (226, [(0, .ref m0), (2, .int 4), (3, .int (nI x)), (4, .int (nI (by2 f p1))), (5, .int (nI p)), (6, .int (nI s3)), (7, .int (nI i)), (8, .int (nI (by4 f (p + 2)))), (10, .int (nI w))], [.int 6, .int (nI p), .int (nI (p + 6)), .int (nI p), .int (nI w), .ref m0], M44)) rfl rfl rfl ?_
              refine ps_st (S' := (227, [(0, .ref m0), (2, .int 4), (3, .int (nI x)), (4, .int (nI (by2 f p1))), (5, .int (nI p)), (6, .int (nI s3)), (7, .int (nI i)), (8, .int (nI (by4 f (p + 2)))), (10, .int (nI w))], [.int ((nI p) + 6), .int (nI (p + 6)), .int (nI p), .int (nI w), .ref m0], M44)) rfl rfl rfl ?_
              rw [nI_add1 (p := p) (k := 6) (x := 6) rfl (by omega)]
              show pl _ _ _ (_, [(0, .ref m0), (2, .int 4), (3, .int (nI x)), (4, .int (nI (by2 f p1))), (5, .int (nI p)), (6, .int (nI s3)), (7, .int (nI i)), (8, .int (nI (by4 f (p + 2)))), (10, .int (nI w))], [.int (nI (p + 6)), .int (nI (p + 6)), .int (nI p), .int (nI w), .ref m0], M44) _
              refine ps_st (S' := (229, [(0, .ref m0), (2, .int 4), (3, .int (nI x)), (4, .int (nI (by2 f p1))), (5, .int (nI p)), (6, .int (nI s3)), (7, .int (nI i)), (8, .int (nI (by4 f (p + 2)))), (10, .int (nI w))], [.int (nI (by4 f (p + 2))), .int (nI (p + 6)), .int (nI (p + 6)), .int (nI p), .int (nI w), .ref m0], M44)) rfl rfl rfl ?_
              refine ps_st (S' := (230, [(0, .ref m0), (2, .int 4), (3, .int (nI x)), (4, .int (nI (by2 f p1))), (5, .int (nI p)), (6, .int (nI s3)), (7, .int (nI i)), (8, .int (nI (by4 f (p + 2)))), (10, .int (nI w))], [.int ((nI (p + 6)) + (nI (by4 f (p + 2)))), .int (nI (p + 6)), .int (nI p), .int (nI w), .ref m0], M44)) rfl rfl rfl ?_
              rw [nI_add1 (p := p + 6) (k := by4 f (p + 2)) (x := (nI (by4 f (p + 2)))) rfl (by omega)]
              show pl _ _ _ (_, [(0, .ref m0), (2, .int 4), (3, .int (nI x)), (4, .int (nI (by2 f p1))), (5, .int (nI p)), (6, .int (nI s3)), (7, .int (nI i)), (8, .int (nI (by4 f (p + 2)))), (10, .int (nI w))], [.int (nI (p + 6 + by4 f (p + 2))), .int (nI (p + 6)), .int (nI p), .int (nI w), .ref m0], M44) _
              refine ps_st (S' := (231, [(0, .ref m0), (2, .int 4), (3, .int (nI x)), (4, .int (nI (by2 f p1))), (5, .int (nI p)), (6, .int (nI s3)), (7, .int (nI i)), (8, .int (nI (by4 f (p + 2)))), (10, .int (nI w))], [.int (nI x), .int (nI (p + 6 + by4 f (p + 2))), .int (nI (p + 6)), .int (nI p), .int (nI w), .ref m0], M44)) rfl rfl rfl ?_
              refine ps_st (S' := (233, [(0, .ref m0), (2, .int 4), (3, .int (nI x)), (4, .int (nI (by2 f p1))), (5, .int (nI p)), (6, .int (nI s3)), (7, .int (nI i)), (8, .int (nI (by4 f (p + 2)))), (10, .int (nI w))], [.int (nI s3), .int (nI x), .int (nI (p + 6 + by4 f (p + 2))), .int (nI (p + 6)), .int (nI p), .int (nI w), .ref m0], M44)) rfl rfl rfl ?_
              refine pl_call (a := [.ref m0, .int (nI w), .int (nI p), .int (nI (p + 6)), .int (nI (p + 6 + by4 f (p + 2))), .int (nI x), .int (nI s3)]) (rest := []) rfl rfl rfl (rd_attrK (n := n) (f := f) (tx := tx) (cN := cN) (A := A) (N := N) (mj := mj) (E := E) (p := p) (e := (p + 6 + by4 f (p + 2))) (x := x) (s3 := s3) (s2 := (so s2 (w + 1))) (fl := fl) (w := w) (nb := bc) (t := (nI p)) (n5 := K.2.2.1) (n8 := K.2.2.2.1) (n10 := K.2.2.2.2.1) (n7 := (b7 K)) (n9 := K.2.2.2.2.2) hR46 hi49 hi50 hi54 hi55 hi56 hi57 hi59 hi60 hi61 hi62 hF_63 hY_64 hP_65 (hEP) (hN) (hmj) (⟨by omega, by omega⟩) (hl) (hf6) (hw2) (fun h9 => (by rw [sb_so, if_neg (by omega), hb 7 (by decide) (by decide)])) (fun h9 => (by rw [sb_so, if_neg (by omega), hb 6 (by decide) (by decide)]))) (fun v68 M69 q70 => ?_)
              rcases q70 with q70 | q70 | q70 | q70
              · skip
                obtain ⟨I71, R72, q233_s, rfl, hR73, hI74, hX75⟩ := q70
                have hi76 := (hI74 51 (by decide)).trans hi49
                have hi77 := (hI74 52 (by decide)).trans hi50
                have hi78 := (hI74 53 (by decide)).trans hi54
                have hi79 := (hI74 58 (by decide)).trans hi55
                have hi80 := (hI74 66 (by decide)).trans hi47
                have hF_81 := hF_63.mono (cIx hI74 (by decide)) (cRx hX75 (by decide))
                have hY_82 := hY_64.mono (cIx hI74 (by decide)) (cRx hX75 (by decide))
                have hP_83 := hP_65.mono (cIx hI74 (by decide)) (cRx hX75 (by decide))
                have hK_84 := hK_66.mono (cIx hI74 (by decide)) (cRx hX75 (by decide))
                have hEI85 := hEI67.tr hI74 (by decide)
                have hER86 := hER1.tr hX75 (by decide)
                show pl _ _ _ (236, [(0, .ref m0), (2, .int 4), (3, .int (nI x)), (4, .int (nI (by2 f p1))), (5, .int (nI p)), (6, .int (nI s3)), (7, .int (nI i)), (8, .int (nI (by4 f (p + 2)))), (10, .int (nI w))], [.int 30], M69) _
                refine ps_st (S' := (238, [(11, .int 30), (0, .ref m0), (2, .int 4), (3, .int (nI x)), (4, .int (nI (by2 f p1))), (5, .int (nI p)), (6, .int (nI s3)), (7, .int (nI i)), (8, .int (nI (by4 f (p + 2)))), (10, .int (nI w))], [], M69)) rfl rfl rfl ?_
                refine ps_st (S' := (240, [(11, .int 30), (0, .ref m0), (2, .int 4), (3, .int (nI x)), (4, .int (nI (by2 f p1))), (5, .int (nI p)), (6, .int (nI s3)), (7, .int (nI i)), (8, .int (nI (by4 f (p + 2)))), (10, .int (nI w))], [.int (nI s3)], M69)) rfl rfl rfl ?_
                refine ps_st (S' := (241, [(11, .int 30), (0, .ref m0), (2, .int 4), (3, .int (nI x)), (4, .int (nI (by2 f p1))), (5, .int (nI p)), (6, .int (nI s3)), (7, .int (nI i)), (8, .int (nI (by4 f (p + 2)))), (10, .int (nI w))], [.int 1, .int (nI s3)], M69)) rfl rfl rfl ?_
                refine ps_st (S' := (243, [(11, .int 30), (0, .ref m0), (2, .int 4), (3, .int (nI x)), (4, .int (nI (by2 f p1))), (5, .int (nI p)), (6, .int (nI s3)), (7, .int (nI i)), (8, .int (nI (by4 f (p + 2)))), (10, .int (nI w))], [.int (nI w), .int 1, .int (nI s3)], M69)) rfl rfl rfl ?_
                refine ps_st (S' := (244, [(11, .int 30), (0, .ref m0), (2, .int 4), (3, .int (nI x)), (4, .int (nI (by2 f p1))), (5, .int (nI p)), (6, .int (nI s3)), (7, .int (nI i)), (8, .int (nI (by4 f (p + 2)))), (10, .int (nI w))], [.int (1 <<< ((nI w) &&& 31)), .int (nI s3)], M69)) rfl rfl rfl ?_
                refine ps_st (S' := (245, [(11, .int 30), (0, .ref m0), (2, .int 4), (3, .int (nI x)), (4, .int (nI (by2 f p1))), (5, .int (nI p)), (6, .int (nI s3)), (7, .int (nI i)), (8, .int (nI (by4 f (p + 2)))), (10, .int (nI w))], [.int ((nI s3) ||| (1 <<< ((nI w) &&& 31)))], M69)) rfl rfl rfl ?_
                rw [or_k s3 w (by omega)]
                show pl _ _ _ (_, [(11, .int 30), (0, .ref m0), (2, .int 4), (3, .int (nI x)), (4, .int (nI (by2 f p1))), (5, .int (nI p)), (6, .int (nI s3)), (7, .int (nI i)), (8, .int (nI (by4 f (p + 2)))), (10, .int (nI w))], [.int (nI (so s3 w))], M69) _
                refine ps_st (S' := (247, [(6, .int (nI (so s3 w))), (11, .int 30), (0, .ref m0), (2, .int 4), (3, .int (nI x)), (4, .int (nI (by2 f p1))), (5, .int (nI p)), (7, .int (nI i)), (8, .int (nI (by4 f (p + 2)))), (10, .int (nI w))], [], M69)) rfl rfl rfl ?_
                refine ps_st (S' := (249, [(6, .int (nI (so s3 w))), (11, .int 30), (0, .ref m0), (2, .int 4), (3, .int (nI x)), (4, .int (nI (by2 f p1))), (5, .int (nI p)), (7, .int (nI i)), (8, .int (nI (by4 f (p + 2)))), (10, .int (nI w))], [.int 30], M69)) rfl rfl rfl ?_
                refine ps_if (S1 := (261, [(0, .ref m0), (2, .int 4), (3, .int (nI x)), (4, .int (nI (by2 f p1))), (5, .int (nI p)), (6, .int (nI (so s3 w))), (7, .int (nI i)), (8, .int (nI (by4 f (p + 2)))), (11, .int 30)], [], M69)) (S2 := (252, [(6, .int (nI (so s3 w))), (11, .int 30), (0, .ref m0), (2, .int 4), (3, .int (nI x)), (4, .int (nI (by2 f p1))), (5, .int (nI p)), (7, .int (nI i)), (8, .int (nI (by4 f (p + 2)))), (10, .int (nI w))], [], M69)) rfl rfl rfl (fun c_249 => ?_) (fun c_249 => ?_)
                · exact absurd (of_decide_eq_true c_249) (by decide)
                refine ps_st (S' := (253, [(6, .int (nI (so s3 w))), (11, .int 30), (0, .ref m0), (2, .int 4), (3, .int (nI x)), (4, .int (nI (by2 f p1))), (5, .int (nI p)), (7, .int (nI i)), (8, .int (nI (by4 f (p + 2)))), (10, .int (nI w))], [.ref m0], M69)) rfl rfl rfl ?_
                refine ps_st (S' := (255, [(6, .int (nI (so s3 w))), (11, .int 30), (0, .ref m0), (2, .int 4), (3, .int (nI x)), (4, .int (nI (by2 f p1))), (5, .int (nI p)), (7, .int (nI i)), (8, .int (nI (by4 f (p + 2)))), (10, .int (nI w))], [.int 30, .ref m0], M69)) rfl rfl rfl ?_
                refine ps_st (S' := (257, [(6, .int (nI (so s3 w))), (11, .int 30), (0, .ref m0), (2, .int 4), (3, .int (nI x)), (4, .int (nI (by2 f p1))), (5, .int (nI p)), (7, .int (nI i)), (8, .int (nI (by4 f (p + 2)))), (10, .int (nI w))], [.int (nI p), .int 30, .ref m0], M69)) rfl rfl rfl ?_
                refine pl_call (a := [.ref m0, .int 30, .int (nI p)]) (rest := []) rfl rfl rfl (rd_wrong (x1 := 30) (x2 := (nI p)) hR73) (fun v87 M88 q89 => ?_)
                obtain ⟨I90, R91, rfl, hR92, hI93, hX94, hi95, hi96⟩ := q89
                have hi97 := (hI93 51 (by decide)).trans hi76
                have hi98 := (hI93 52 (by decide)).trans hi77
                have hi99 := (hI93 53 (by decide)).trans hi78
                have hi100 := (hI93 58 (by decide)).trans hi79
                have hi101 := (hI93 66 (by decide)).trans hi80
                have hF_102 := hF_81.mono (cIx hI93 (by decide)) (cRx hX94 (by decide))
                have hY_103 := hY_82.mono (cIx hI93 (by decide)) (cRx hX94 (by decide))
                have hP_104 := hP_83.mono (cIx hI93 (by decide)) (cRx hX94 (by decide))
                have hK_105 := hK_84.mono (cIx hI93 (by decide)) (cRx hX94 (by decide))
                have hEI106 := hEI85.tr hI93 (by decide)
                have hER107 := hER86.tr hX94 (by decide)
                show pl _ _ _ (260, [(6, .int (nI (so s3 w))), (11, .int 30), (0, .ref m0), (2, .int 4), (3, .int (nI x)), (4, .int (nI (by2 f p1))), (5, .int (nI p)), (7, .int (nI i)), (8, .int (nI (by4 f (p + 2)))), (10, .int (nI w))], [.int 0], M88) _
                refine ps_st (S' := (261, [(0, .ref m0), (2, .int 4), (3, .int (nI x)), (4, .int (nI (by2 f p1))), (5, .int (nI p)), (6, .int (nI (so s3 w))), (7, .int (nI i)), (8, .int (nI (by4 f (p + 2)))), (11, .int 30)], [], M88)) rfl rfl rfl ?_
                refine ps_st (S' := (263, [(0, .ref m0), (2, .int 4), (3, .int (nI x)), (4, .int (nI (by2 f p1))), (5, .int (nI p)), (6, .int (nI (so s3 w))), (7, .int (nI i)), (8, .int (nI (by4 f (p + 2)))), (11, .int 30)], [.int 30], M88)) rfl rfl rfl ?_
                refine ps_if (S1 := (268, [(0, .ref m0), (2, .int 4), (3, .int (nI x)), (4, .int (nI (by2 f p1))), (5, .int (nI p)), (6, .int (nI (so s3 w))), (7, .int (nI i)), (8, .int (nI (by4 f (p + 2))))], [], M88)) (S2 := (266, [(0, .ref m0), (2, .int 4), (3, .int (nI x)), (4, .int (nI (by2 f p1))), (5, .int (nI p)), (6, .int (nI (so s3 w))), (7, .int (nI i)), (8, .int (nI (by4 f (p + 2)))), (11, .int 30)], [], M88)) rfl rfl rfl (fun c_263 => ?_) (fun c_263 => ?_)
                · exact absurd (of_decide_eq_true c_263) (by decide)
                refine ps_st (S' := (267, [(0, .ref m0), (2, .int 4), (3, .int (nI x)), (4, .int (nI (by2 f p1))), (5, .int (nI p)), (6, .int (nI (so s3 w))), (7, .int (nI i)), (8, .int (nI (by4 f (p + 2)))), (11, .int 30)], [.int (-1)], M88)) rfl rfl rfl ?_
                exact ps_ret rfl rfl (Or.inl ⟨(30, p), I90, R91, by
                    rw [← hs9, clS_k (i := i) (p := p) (s := s2) hi0 h1 hsm (by omega) hws, if_pos q233_s], rfl, hR92, hEI106, hER107, hi95, hi96⟩)
              · skip
                obtain ⟨r108, I109, R110, q233_s, q233_b, q233_l, rfl, hR111, hI112, hX113⟩ := q70
                have hi114 := (hI112 51 (by decide)).trans hi49
                have hi115 := (hI112 52 (by decide)).trans hi50
                have hi116 := (hI112 53 (by decide)).trans hi54
                have hi117 := (hI112 58 (by decide)).trans hi55
                have hi118 := (hI112 66 (by decide)).trans hi47
                have hF_119 := hF_63.mono (cIx hI112 (by decide)) (cRx hX113 (by decide))
                have hY_120 := hY_64.mono (cIx hI112 (by decide)) (cRx hX113 (by decide))
                have hP_121 := hP_65.mono (cIx hI112 (by decide)) (cRx hX113 (by decide))
                have hK_122 := hK_66.mono (cIx hI112 (by decide)) (cRx hX113 (by decide))
                have hEI123 := hEI67.tr hI112 (by decide)
                have hER124 := hER1.tr hX113 (by decide)
                show pl _ _ _ (236, [(0, .ref m0), (2, .int 4), (3, .int (nI x)), (4, .int (nI (by2 f p1))), (5, .int (nI p)), (6, .int (nI s3)), (7, .int (nI i)), (8, .int (nI (by4 f (p + 2)))), (10, .int (nI w))], [.int (nI r108)], M69) _
                refine ps_st (S' := (238, [(11, .int (nI r108)), (0, .ref m0), (2, .int 4), (3, .int (nI x)), (4, .int (nI (by2 f p1))), (5, .int (nI p)), (6, .int (nI s3)), (7, .int (nI i)), (8, .int (nI (by4 f (p + 2)))), (10, .int (nI w))], [], M69)) rfl rfl rfl ?_
                refine ps_st (S' := (240, [(11, .int (nI r108)), (0, .ref m0), (2, .int 4), (3, .int (nI x)), (4, .int (nI (by2 f p1))), (5, .int (nI p)), (6, .int (nI s3)), (7, .int (nI i)), (8, .int (nI (by4 f (p + 2)))), (10, .int (nI w))], [.int (nI s3)], M69)) rfl rfl rfl ?_
                refine ps_st (S' := (241, [(11, .int (nI r108)), (0, .ref m0), (2, .int 4), (3, .int (nI x)), (4, .int (nI (by2 f p1))), (5, .int (nI p)), (6, .int (nI s3)), (7, .int (nI i)), (8, .int (nI (by4 f (p + 2)))), (10, .int (nI w))], [.int 1, .int (nI s3)], M69)) rfl rfl rfl ?_
                refine ps_st (S' := (243, [(11, .int (nI r108)), (0, .ref m0), (2, .int 4), (3, .int (nI x)), (4, .int (nI (by2 f p1))), (5, .int (nI p)), (6, .int (nI s3)), (7, .int (nI i)), (8, .int (nI (by4 f (p + 2)))), (10, .int (nI w))], [.int (nI w), .int 1, .int (nI s3)], M69)) rfl rfl rfl ?_
                refine ps_st (S' := (244, [(11, .int (nI r108)), (0, .ref m0), (2, .int 4), (3, .int (nI x)), (4, .int (nI (by2 f p1))), (5, .int (nI p)), (6, .int (nI s3)), (7, .int (nI i)), (8, .int (nI (by4 f (p + 2)))), (10, .int (nI w))], [.int (1 <<< ((nI w) &&& 31)), .int (nI s3)], M69)) rfl rfl rfl ?_
                refine ps_st (S' := (245, [(11, .int (nI r108)), (0, .ref m0), (2, .int 4), (3, .int (nI x)), (4, .int (nI (by2 f p1))), (5, .int (nI p)), (6, .int (nI s3)), (7, .int (nI i)), (8, .int (nI (by4 f (p + 2)))), (10, .int (nI w))], [.int ((nI s3) ||| (1 <<< ((nI w) &&& 31)))], M69)) rfl rfl rfl ?_
                rw [or_k s3 w (by omega)]
                show pl _ _ _ (_, [(11, .int (nI r108)), (0, .ref m0), (2, .int 4), (3, .int (nI x)), (4, .int (nI (by2 f p1))), (5, .int (nI p)), (6, .int (nI s3)), (7, .int (nI i)), (8, .int (nI (by4 f (p + 2)))), (10, .int (nI w))], [.int (nI (so s3 w))], M69) _
                refine ps_st (S' := (247, [(6, .int (nI (so s3 w))), (11, .int (nI r108)), (0, .ref m0), (2, .int 4), (3, .int (nI x)), (4, .int (nI (by2 f p1))), (5, .int (nI p)), (7, .int (nI i)), (8, .int (nI (by4 f (p + 2)))), (10, .int (nI w))], [], M69)) rfl rfl rfl ?_
                refine ps_st (S' := (249, [(6, .int (nI (so s3 w))), (11, .int (nI r108)), (0, .ref m0), (2, .int 4), (3, .int (nI x)), (4, .int (nI (by2 f p1))), (5, .int (nI p)), (7, .int (nI i)), (8, .int (nI (by4 f (p + 2)))), (10, .int (nI w))], [.int (nI r108)], M69)) rfl rfl rfl ?_
                refine ps_if (S1 := (261, [(0, .ref m0), (2, .int 4), (3, .int (nI x)), (4, .int (nI (by2 f p1))), (5, .int (nI p)), (6, .int (nI (so s3 w))), (7, .int (nI i)), (8, .int (nI (by4 f (p + 2)))), (11, .int (nI r108))], [], M69)) (S2 := (252, [(6, .int (nI (so s3 w))), (11, .int (nI r108)), (0, .ref m0), (2, .int 4), (3, .int (nI x)), (4, .int (nI (by2 f p1))), (5, .int (nI p)), (7, .int (nI i)), (8, .int (nI (by4 f (p + 2)))), (10, .int (nI w))], [], M69)) rfl rfl rfl (fun c_249 => ?_) (fun c_249 => ?_)
                · exact absurd (of_decide_eq_true c_249) (show ¬ ((nI r108) ≤ 0) from fun h9 => absurd ((le_nI (p := r108) (n := 0) (by omega) (by decide)).mp h9) (by omega))
                refine ps_st (S' := (253, [(6, .int (nI (so s3 w))), (11, .int (nI r108)), (0, .ref m0), (2, .int 4), (3, .int (nI x)), (4, .int (nI (by2 f p1))), (5, .int (nI p)), (7, .int (nI i)), (8, .int (nI (by4 f (p + 2)))), (10, .int (nI w))], [.ref m0], M69)) rfl rfl rfl ?_
                refine ps_st (S' := (255, [(6, .int (nI (so s3 w))), (11, .int (nI r108)), (0, .ref m0), (2, .int 4), (3, .int (nI x)), (4, .int (nI (by2 f p1))), (5, .int (nI p)), (7, .int (nI i)), (8, .int (nI (by4 f (p + 2)))), (10, .int (nI w))], [.int (nI r108), .ref m0], M69)) rfl rfl rfl ?_
                refine ps_st (S' := (257, [(6, .int (nI (so s3 w))), (11, .int (nI r108)), (0, .ref m0), (2, .int 4), (3, .int (nI x)), (4, .int (nI (by2 f p1))), (5, .int (nI p)), (7, .int (nI i)), (8, .int (nI (by4 f (p + 2)))), (10, .int (nI w))], [.int (nI p), .int (nI r108), .ref m0], M69)) rfl rfl rfl ?_
                refine pl_call (a := [.ref m0, .int (nI r108), .int (nI p)]) (rest := []) rfl rfl rfl (rd_wrong (x1 := (nI r108)) (x2 := (nI p)) hR111) (fun v125 M126 q127 => ?_)
                obtain ⟨I128, R129, rfl, hR130, hI131, hX132, hi133, hi134⟩ := q127
                have hi135 := (hI131 51 (by decide)).trans hi114
                have hi136 := (hI131 52 (by decide)).trans hi115
                have hi137 := (hI131 53 (by decide)).trans hi116
                have hi138 := (hI131 58 (by decide)).trans hi117
                have hi139 := (hI131 66 (by decide)).trans hi118
                have hF_140 := hF_119.mono (cIx hI131 (by decide)) (cRx hX132 (by decide))
                have hY_141 := hY_120.mono (cIx hI131 (by decide)) (cRx hX132 (by decide))
                have hP_142 := hP_121.mono (cIx hI131 (by decide)) (cRx hX132 (by decide))
                have hK_143 := hK_122.mono (cIx hI131 (by decide)) (cRx hX132 (by decide))
                have hEI144 := hEI123.tr hI131 (by decide)
                have hER145 := hER124.tr hX132 (by decide)
                show pl _ _ _ (260, [(6, .int (nI (so s3 w))), (11, .int (nI r108)), (0, .ref m0), (2, .int 4), (3, .int (nI x)), (4, .int (nI (by2 f p1))), (5, .int (nI p)), (7, .int (nI i)), (8, .int (nI (by4 f (p + 2)))), (10, .int (nI w))], [.int 0], M126) _
                refine ps_st (S' := (261, [(0, .ref m0), (2, .int 4), (3, .int (nI x)), (4, .int (nI (by2 f p1))), (5, .int (nI p)), (6, .int (nI (so s3 w))), (7, .int (nI i)), (8, .int (nI (by4 f (p + 2)))), (11, .int (nI r108))], [], M126)) rfl rfl rfl ?_
                refine ps_st (S' := (263, [(0, .ref m0), (2, .int 4), (3, .int (nI x)), (4, .int (nI (by2 f p1))), (5, .int (nI p)), (6, .int (nI (so s3 w))), (7, .int (nI i)), (8, .int (nI (by4 f (p + 2)))), (11, .int (nI r108))], [.int (nI r108)], M126)) rfl rfl rfl ?_
                refine ps_if (S1 := (268, [(0, .ref m0), (2, .int 4), (3, .int (nI x)), (4, .int (nI (by2 f p1))), (5, .int (nI p)), (6, .int (nI (so s3 w))), (7, .int (nI i)), (8, .int (nI (by4 f (p + 2))))], [], M126)) (S2 := (266, [(0, .ref m0), (2, .int 4), (3, .int (nI x)), (4, .int (nI (by2 f p1))), (5, .int (nI p)), (6, .int (nI (so s3 w))), (7, .int (nI i)), (8, .int (nI (by4 f (p + 2)))), (11, .int (nI r108))], [], M126)) rfl rfl rfl (fun c_263 => ?_) (fun c_263 => ?_)
                · exact absurd (of_decide_eq_true c_263) (show ¬ ((nI r108) = 0) from fun h9 => absurd ((eq_nI (p := r108) (n := 0) (by omega) (by decide)).mp h9) (by omega))
                refine ps_st (S' := (267, [(0, .ref m0), (2, .int 4), (3, .int (nI x)), (4, .int (nI (by2 f p1))), (5, .int (nI p)), (6, .int (nI (so s3 w))), (7, .int (nI i)), (8, .int (nI (by4 f (p + 2)))), (11, .int (nI r108))], [.int (-1)], M126)) rfl rfl rfl ?_
                exact ps_ret rfl rfl (Or.inl ⟨(r108, p), I128, R129, by
                    rw [← hs9, clS_k (i := i) (p := p) (s := s2) hi0 h1 hsm (by omega) hws, if_neg (fun h9 => h9 q233_s)]; rcases q233_b with q9 | q9 <;> rw [q9], rfl, hR130, hEI144, hER145, hi133, hi134⟩)
              · skip
                obtain ⟨e9146, I147, R148, q233_s, q233_b, rfl, hR149, hI150, hX151, hi152, hi153⟩ := q70
                have hi154 := (hI150 51 (by decide)).trans hi49
                have hi155 := (hI150 52 (by decide)).trans hi50
                have hi156 := (hI150 53 (by decide)).trans hi54
                have hi157 := (hI150 58 (by decide)).trans hi55
                have hi158 := (hI150 66 (by decide)).trans hi47
                have hF_159 := hF_63.mono (cIx hI150 (by decide)) (cRx hX151 (by decide))
                have hY_160 := hY_64.mono (cIx hI150 (by decide)) (cRx hX151 (by decide))
                have hP_161 := hP_65.mono (cIx hI150 (by decide)) (cRx hX151 (by decide))
                have hK_162 := hK_66.mono (cIx hI150 (by decide)) (cRx hX151 (by decide))
                have hEI163 := hEI67.tr hI150 (by decide)
                have hER164 := hER1.tr hX151 (by decide)
                show pl _ _ _ (236, [(0, .ref m0), (2, .int 4), (3, .int (nI x)), (4, .int (nI (by2 f p1))), (5, .int (nI p)), (6, .int (nI s3)), (7, .int (nI i)), (8, .int (nI (by4 f (p + 2)))), (10, .int (nI w))], [.int (-1)], M69) _
                refine ps_st (S' := (238, [(11, .int (-1)), (0, .ref m0), (2, .int 4), (3, .int (nI x)), (4, .int (nI (by2 f p1))), (5, .int (nI p)), (6, .int (nI s3)), (7, .int (nI i)), (8, .int (nI (by4 f (p + 2)))), (10, .int (nI w))], [], M69)) rfl rfl rfl ?_
                refine ps_st (S' := (240, [(11, .int (-1)), (0, .ref m0), (2, .int 4), (3, .int (nI x)), (4, .int (nI (by2 f p1))), (5, .int (nI p)), (6, .int (nI s3)), (7, .int (nI i)), (8, .int (nI (by4 f (p + 2)))), (10, .int (nI w))], [.int (nI s3)], M69)) rfl rfl rfl ?_
                refine ps_st (S' := (241, [(11, .int (-1)), (0, .ref m0), (2, .int 4), (3, .int (nI x)), (4, .int (nI (by2 f p1))), (5, .int (nI p)), (6, .int (nI s3)), (7, .int (nI i)), (8, .int (nI (by4 f (p + 2)))), (10, .int (nI w))], [.int 1, .int (nI s3)], M69)) rfl rfl rfl ?_
                refine ps_st (S' := (243, [(11, .int (-1)), (0, .ref m0), (2, .int 4), (3, .int (nI x)), (4, .int (nI (by2 f p1))), (5, .int (nI p)), (6, .int (nI s3)), (7, .int (nI i)), (8, .int (nI (by4 f (p + 2)))), (10, .int (nI w))], [.int (nI w), .int 1, .int (nI s3)], M69)) rfl rfl rfl ?_
                refine ps_st (S' := (244, [(11, .int (-1)), (0, .ref m0), (2, .int 4), (3, .int (nI x)), (4, .int (nI (by2 f p1))), (5, .int (nI p)), (6, .int (nI s3)), (7, .int (nI i)), (8, .int (nI (by4 f (p + 2)))), (10, .int (nI w))], [.int (1 <<< ((nI w) &&& 31)), .int (nI s3)], M69)) rfl rfl rfl ?_
                refine ps_st (S' := (245, [(11, .int (-1)), (0, .ref m0), (2, .int 4), (3, .int (nI x)), (4, .int (nI (by2 f p1))), (5, .int (nI p)), (6, .int (nI s3)), (7, .int (nI i)), (8, .int (nI (by4 f (p + 2)))), (10, .int (nI w))], [.int ((nI s3) ||| (1 <<< ((nI w) &&& 31)))], M69)) rfl rfl rfl ?_
                rw [or_k s3 w (by omega)]
                show pl _ _ _ (_, [(11, .int (-1)), (0, .ref m0), (2, .int 4), (3, .int (nI x)), (4, .int (nI (by2 f p1))), (5, .int (nI p)), (6, .int (nI s3)), (7, .int (nI i)), (8, .int (nI (by4 f (p + 2)))), (10, .int (nI w))], [.int (nI (so s3 w))], M69) _
                refine ps_st (S' := (247, [(6, .int (nI (so s3 w))), (11, .int (-1)), (0, .ref m0), (2, .int 4), (3, .int (nI x)), (4, .int (nI (by2 f p1))), (5, .int (nI p)), (7, .int (nI i)), (8, .int (nI (by4 f (p + 2)))), (10, .int (nI w))], [], M69)) rfl rfl rfl ?_
                refine ps_st (S' := (249, [(6, .int (nI (so s3 w))), (11, .int (-1)), (0, .ref m0), (2, .int 4), (3, .int (nI x)), (4, .int (nI (by2 f p1))), (5, .int (nI p)), (7, .int (nI i)), (8, .int (nI (by4 f (p + 2)))), (10, .int (nI w))], [.int (-1)], M69)) rfl rfl rfl ?_
                refine ps_if (S1 := (261, [(0, .ref m0), (2, .int 4), (3, .int (nI x)), (4, .int (nI (by2 f p1))), (5, .int (nI p)), (6, .int (nI (so s3 w))), (7, .int (nI i)), (8, .int (nI (by4 f (p + 2)))), (11, .int (-1))], [], M69)) (S2 := (252, [(6, .int (nI (so s3 w))), (11, .int (-1)), (0, .ref m0), (2, .int 4), (3, .int (nI x)), (4, .int (nI (by2 f p1))), (5, .int (nI p)), (7, .int (nI i)), (8, .int (nI (by4 f (p + 2)))), (10, .int (nI w))], [], M69)) rfl rfl rfl (fun c_249 => ?_) (fun c_249 => ?_)
                rotate_left
                · exact absurd (by decide) (of_decide_eq_false c_249)
                refine ps_st (S' := (263, [(0, .ref m0), (2, .int 4), (3, .int (nI x)), (4, .int (nI (by2 f p1))), (5, .int (nI p)), (6, .int (nI (so s3 w))), (7, .int (nI i)), (8, .int (nI (by4 f (p + 2)))), (11, .int (-1))], [.int (-1)], M69)) rfl rfl rfl ?_
                refine ps_if (S1 := (268, [(0, .ref m0), (2, .int 4), (3, .int (nI x)), (4, .int (nI (by2 f p1))), (5, .int (nI p)), (6, .int (nI (so s3 w))), (7, .int (nI i)), (8, .int (nI (by4 f (p + 2))))], [], M69)) (S2 := (266, [(0, .ref m0), (2, .int 4), (3, .int (nI x)), (4, .int (nI (by2 f p1))), (5, .int (nI p)), (6, .int (nI (so s3 w))), (7, .int (nI i)), (8, .int (nI (by4 f (p + 2)))), (11, .int (-1))], [], M69)) rfl rfl rfl (fun c_263 => ?_) (fun c_263 => ?_)
                · exact absurd (of_decide_eq_true c_263) (by decide)
                refine ps_st (S' := (267, [(0, .ref m0), (2, .int 4), (3, .int (nI x)), (4, .int (nI (by2 f p1))), (5, .int (nI p)), (6, .int (nI (so s3 w))), (7, .int (nI i)), (8, .int (nI (by4 f (p + 2)))), (11, .int (-1))], [.int (-1)], M69)) rfl rfl rfl ?_
                exact ps_ret rfl rfl (Or.inl ⟨e9146, I147, R148, by
                    rw [← hs9, clS_k (i := i) (p := p) (s := s2) hi0 h1 hsm (by omega) hws, if_neg (fun h9 => h9 q233_s), q233_b], rfl, hR149, hEI163, hER164, hi152, hi153⟩)
              · skip
                obtain ⟨I165, R166, q233_s, q233_b, rfl, hR167, hI168, hX169, hi170, hi171, hi172, hi173, hi174, hi175⟩ := q70
                have hi176 := (hI168 51 (by decide)).trans hi49
                have hi177 := (hI168 52 (by decide)).trans hi50
                have hi178 := (hI168 53 (by decide)).trans hi54
                have hi179 := (hI168 58 (by decide)).trans hi55
                have hi180 := (hI168 66 (by decide)).trans hi47
                have hF_181 := hF_63.mono (cIx hI168 (by decide)) (cRx hX169 (by decide))
                have hY_182 := hY_64.mono (cIx hI168 (by decide)) (cRx hX169 (by decide))
                have hP_183 := hP_65.mono (cIx hI168 (by decide)) (cRx hX169 (by decide))
                have hK_184 := hK_66.mono (cIx hI168 (by decide)) (cRx hX169 (by decide))
                have hEI185 := hEI67.tr hI168 (by decide)
                have hER186 := hER1.tr hX169 (by decide)
                show pl _ _ _ (236, [(0, .ref m0), (2, .int 4), (3, .int (nI x)), (4, .int (nI (by2 f p1))), (5, .int (nI p)), (6, .int (nI s3)), (7, .int (nI i)), (8, .int (nI (by4 f (p + 2)))), (10, .int (nI w))], [.int 0], M69) _
                refine ps_st (S' := (238, [(11, .int 0), (0, .ref m0), (2, .int 4), (3, .int (nI x)), (4, .int (nI (by2 f p1))), (5, .int (nI p)), (6, .int (nI s3)), (7, .int (nI i)), (8, .int (nI (by4 f (p + 2)))), (10, .int (nI w))], [], M69)) rfl rfl rfl ?_
                refine ps_st (S' := (240, [(11, .int 0), (0, .ref m0), (2, .int 4), (3, .int (nI x)), (4, .int (nI (by2 f p1))), (5, .int (nI p)), (6, .int (nI s3)), (7, .int (nI i)), (8, .int (nI (by4 f (p + 2)))), (10, .int (nI w))], [.int (nI s3)], M69)) rfl rfl rfl ?_
                refine ps_st (S' := (241, [(11, .int 0), (0, .ref m0), (2, .int 4), (3, .int (nI x)), (4, .int (nI (by2 f p1))), (5, .int (nI p)), (6, .int (nI s3)), (7, .int (nI i)), (8, .int (nI (by4 f (p + 2)))), (10, .int (nI w))], [.int 1, .int (nI s3)], M69)) rfl rfl rfl ?_
                refine ps_st (S' := (243, [(11, .int 0), (0, .ref m0), (2, .int 4), (3, .int (nI x)), (4, .int (nI (by2 f p1))), (5, .int (nI p)), (6, .int (nI s3)), (7, .int (nI i)), (8, .int (nI (by4 f (p + 2)))), (10, .int (nI w))], [.int (nI w), .int 1, .int (nI s3)], M69)) rfl rfl rfl ?_
                refine ps_st (S' := (244, [(11, .int 0), (0, .ref m0), (2, .int 4), (3, .int (nI x)), (4, .int (nI (by2 f p1))), (5, .int (nI p)), (6, .int (nI s3)), (7, .int (nI i)), (8, .int (nI (by4 f (p + 2)))), (10, .int (nI w))], [.int (1 <<< ((nI w) &&& 31)), .int (nI s3)], M69)) rfl rfl rfl ?_
                refine ps_st (S' := (245, [(11, .int 0), (0, .ref m0), (2, .int 4), (3, .int (nI x)), (4, .int (nI (by2 f p1))), (5, .int (nI p)), (6, .int (nI s3)), (7, .int (nI i)), (8, .int (nI (by4 f (p + 2)))), (10, .int (nI w))], [.int ((nI s3) ||| (1 <<< ((nI w) &&& 31)))], M69)) rfl rfl rfl ?_
                rw [or_k s3 w (by omega)]
                show pl _ _ _ (_, [(11, .int 0), (0, .ref m0), (2, .int 4), (3, .int (nI x)), (4, .int (nI (by2 f p1))), (5, .int (nI p)), (6, .int (nI s3)), (7, .int (nI i)), (8, .int (nI (by4 f (p + 2)))), (10, .int (nI w))], [.int (nI (so s3 w))], M69) _
                refine ps_st (S' := (247, [(6, .int (nI (so s3 w))), (11, .int 0), (0, .ref m0), (2, .int 4), (3, .int (nI x)), (4, .int (nI (by2 f p1))), (5, .int (nI p)), (7, .int (nI i)), (8, .int (nI (by4 f (p + 2)))), (10, .int (nI w))], [], M69)) rfl rfl rfl ?_
                refine ps_st (S' := (249, [(6, .int (nI (so s3 w))), (11, .int 0), (0, .ref m0), (2, .int 4), (3, .int (nI x)), (4, .int (nI (by2 f p1))), (5, .int (nI p)), (7, .int (nI i)), (8, .int (nI (by4 f (p + 2)))), (10, .int (nI w))], [.int 0], M69)) rfl rfl rfl ?_
                refine ps_if (S1 := (261, [(0, .ref m0), (2, .int 4), (3, .int (nI x)), (4, .int (nI (by2 f p1))), (5, .int (nI p)), (6, .int (nI (so s3 w))), (7, .int (nI i)), (8, .int (nI (by4 f (p + 2)))), (11, .int 0)], [], M69)) (S2 := (252, [(6, .int (nI (so s3 w))), (11, .int 0), (0, .ref m0), (2, .int 4), (3, .int (nI x)), (4, .int (nI (by2 f p1))), (5, .int (nI p)), (7, .int (nI i)), (8, .int (nI (by4 f (p + 2)))), (10, .int (nI w))], [], M69)) rfl rfl rfl (fun c_249 => ?_) (fun c_249 => ?_)
                rotate_left
                · exact absurd (by decide) (of_decide_eq_false c_249)
                refine ps_st (S' := (263, [(0, .ref m0), (2, .int 4), (3, .int (nI x)), (4, .int (nI (by2 f p1))), (5, .int (nI p)), (6, .int (nI (so s3 w))), (7, .int (nI i)), (8, .int (nI (by4 f (p + 2)))), (11, .int 0)], [.int 0], M69)) rfl rfl rfl ?_
                refine ps_if (S1 := (268, [(0, .ref m0), (2, .int 4), (3, .int (nI x)), (4, .int (nI (by2 f p1))), (5, .int (nI p)), (6, .int (nI (so s3 w))), (7, .int (nI i)), (8, .int (nI (by4 f (p + 2))))], [], M69)) (S2 := (266, [(0, .ref m0), (2, .int 4), (3, .int (nI x)), (4, .int (nI (by2 f p1))), (5, .int (nI p)), (6, .int (nI (so s3 w))), (7, .int (nI i)), (8, .int (nI (by4 f (p + 2)))), (11, .int 0)], [], M69)) rfl rfl rfl (fun c_263 => ?_) (fun c_263 => ?_)
                rotate_left
                · exact absurd (by decide) (of_decide_eq_false c_263)
                refine ps_st (S' := (270, [(0, .ref m0), (2, .int 4), (3, .int (nI x)), (4, .int (nI (by2 f p1))), (5, .int (nI p)), (6, .int (nI (so s3 w))), (7, .int (nI i)), (8, .int (nI (by4 f (p + 2))))], [.int (nI p)], M69)) rfl rfl rfl ?_
                refine ps_st (S' := (272, [(0, .ref m0), (2, .int 4), (3, .int (nI x)), (4, .int (nI (by2 f p1))), (5, .int (nI p)), (6, .int (nI (so s3 w))), (7, .int (nI i)), (8, .int (nI (by4 f (p + 2))))], [.int 6, .int (nI p)], M69)) rfl rfl rfl ?_
                refine ps_st (S' := (274, [(0, .ref m0), (2, .int 4), (3, .int (nI x)), (4, .int (nI (by2 f p1))), (5, .int (nI p)), (6, .int (nI (so s3 w))), (7, .int (nI i)), (8, .int (nI (by4 f (p + 2))))], [.int (nI (by4 f (p + 2))), .int 6, .int (nI p)], M69)) rfl rfl rfl ?_
                refine ps_st (S' := (275, [(0, .ref m0), (2, .int 4), (3, .int (nI x)), (4, .int (nI (by2 f p1))), (5, .int (nI p)), (6, .int (nI (so s3 w))), (7, .int (nI i)), (8, .int (nI (by4 f (p + 2))))], [.int (6 + (nI (by4 f (p + 2)))), .int (nI p)], M69)) rfl rfl rfl ?_
                rw [nI_add2 (p := 6) (k := by4 f (p + 2)) (x := 6) (y := (nI (by4 f (p + 2)))) rfl rfl (by omega)]
                show pl _ _ _ (_, [(0, .ref m0), (2, .int 4), (3, .int (nI x)), (4, .int (nI (by2 f p1))), (5, .int (nI p)), (6, .int (nI (so s3 w))), (7, .int (nI i)), (8, .int (nI (by4 f (p + 2))))], [.int (nI (6 + by4 f (p + 2))), .int (nI p)], M69) _
                refine ps_st (S' := (276, [(0, .ref m0), (2, .int 4), (3, .int (nI x)), (4, .int (nI (by2 f p1))), (5, .int (nI p)), (6, .int (nI (so s3 w))), (7, .int (nI i)), (8, .int (nI (by4 f (p + 2))))], [.int ((nI p) + (nI (6 + by4 f (p + 2))))], M69)) rfl rfl rfl ?_
                rw [nI_add1 (p := p) (k := 6 + by4 f (p + 2)) (x := (nI (6 + by4 f (p + 2)))) rfl (by omega)]
                rw [show nI (p + (6 + by4 f (p + 2))) = nI (p + 6 + by4 f (p + 2)) from congrArg nI (by omega)]
                show pl _ _ _ (_, [(0, .ref m0), (2, .int 4), (3, .int (nI x)), (4, .int (nI (by2 f p1))), (5, .int (nI p)), (6, .int (nI (so s3 w))), (7, .int (nI i)), (8, .int (nI (by4 f (p + 2))))], [.int (nI (p + 6 + by4 f (p + 2)))], M69) _
                refine ps_st (S' := (278, [(5, .int (nI (p + 6 + by4 f (p + 2)))), (0, .ref m0), (2, .int 4), (3, .int (nI x)), (4, .int (nI (by2 f p1))), (6, .int (nI (so s3 w))), (7, .int (nI i)), (8, .int (nI (by4 f (p + 2))))], [], M69)) rfl rfl rfl ?_
                refine ps_st (S' := (281, [(7, .int ((nI i) + 1)), (5, .int (nI (p + 6 + by4 f (p + 2)))), (0, .ref m0), (2, .int 4), (3, .int (nI x)), (4, .int (nI (by2 f p1))), (6, .int (nI (so s3 w))), (8, .int (nI (by4 f (p + 2))))], [], M69)) rfl rfl rfl ?_
                rw [nI_add1 (p := i) (k := 1) (x := 1) rfl (by omega)]
                show pl _ _ _ (_, [(7, .int (nI (i + 1))), (5, .int (nI (p + 6 + by4 f (p + 2)))), (0, .ref m0), (2, .int 4), (3, .int (nI x)), (4, .int (nI (by2 f p1))), (6, .int (nI (so s3 w))), (8, .int (nI (by4 f (p + 2))))], [], M69) _
                refine ps_st (S' := (18, [(0, .ref m0), (2, .int 4), (3, .int (nI x)), (4, .int (nI (by2 f p1))), (5, .int (nI (p + 6 + by4 f (p + 2)))), (6, .int (nI (so s3 w))), (7, .int (nI (i + 1)))], [], M69)) rfl rfl rfl ?_
                have h66 : I165 66 = some (nI (stU f (w + 1) p K).1) := by
                  rw [stU_k (show ¬ w + 1 = 0 by omega)]
                  exact hi180
                have h70 : I165 70 = some (b7 (stU f (w + 1) p K)) := by
                  rw [b7_st]
                  exact hi174
                exact ih.1 (i + 1) (p + 6 + by4 f (p + 2)) (so s2 (w + 1)) (so s3 w) (if w = 5 then by2 f (p + 6) else bc) (stU f (w + 1) p K) M69 I165 R166 hR167 hEI185 hER186 hi176 hi177 hi178 hi179 hi170 h66 hi171 hi172 hi173 h70 hi175 hF_181 hY_182 hP_183 hK_184 (by omega) (so_lt hl (by omega)) (fun w9 a9 b9 => (by have h9 := hb w9 a9 b9; rw [sb_so, sb_so, h9]; by_cases h8 : w9 = w; rw [if_pos h8, if_pos (by omega)]; rw [if_neg h8, if_neg (by omega)])) (hq7) (by
                    rw [← hs9, clS_k (i := i) (p := p) (s := s2) hi0 h1 hsm (by omega) hws, if_neg (show ¬ ¬ s_fe f (w + 1) (p + 6) (p + 6 + by4 f (p + 2)) = some (p + 6 + by4 f (p + 2)) from fun h9 => h9 q233_s), q233_b]) (by
                    rw [← hu, clU_st (i := i) hi0, hsm]) (by
                    rw [stU_k (show ¬ w + 1 = 0 by omega)]
                    omega)
            · have c_198 : ¬ (¬ (nI (sb s3 w)) = 1) := of_decide_eq_false c_198
              have n_198 : sb s3 w = 1 := (eq_nI (p := sb s3 w) (n := 1) (Nat.lt_trans (sb_lt _ _) (by decide)) (by decide)).mp (Decidable.not_not.mp c_198)
              refine ps_st (S' := (202, [(0, .ref m0), (2, .int 4), (3, .int (nI x)), (4, .int (nI (by2 f p1))), (5, .int (nI p)), (6, .int (nI s3)), (7, .int (nI i)), (8, .int (nI (by4 f (p + 2)))), (10, .int (nI w))], [.ref m0], M44)) rfl rfl rfl ?_
              refine ps_st (S' := (204, [(0, .ref m0), (2, .int 4), (3, .int (nI x)), (4, .int (nI (by2 f p1))), (5, .int (nI p)), (6, .int (nI s3)), (7, .int (nI i)), (8, .int (nI (by4 f (p + 2)))), (10, .int (nI w))], [.int 29, .ref m0], M44)) rfl rfl rfl ?_
              refine ps_st (S' := (206, [(0, .ref m0), (2, .int 4), (3, .int (nI x)), (4, .int (nI (by2 f p1))), (5, .int (nI p)), (6, .int (nI s3)), (7, .int (nI i)), (8, .int (nI (by4 f (p + 2)))), (10, .int (nI w))], [.int (nI p), .int 29, .ref m0], M44)) rfl rfl rfl ?_
              refine pl_call (a := [.ref m0, .int 29, .int (nI p)]) (rest := []) rfl rfl rfl (rd_wrong (x1 := 29) (x2 := (nI p)) hR46) (fun v187 M188 q189 => ?_)
              obtain ⟨I190, R191, rfl, hR192, hI193, hX194, hi195, hi196⟩ := q189
              have hi197 := (hI193 51 (by decide)).trans hi49
              have hi198 := (hI193 52 (by decide)).trans hi50
              have hi199 := (hI193 53 (by decide)).trans hi54
              have hi200 := (hI193 58 (by decide)).trans hi55
              have hi201 := (hI193 71 (by decide)).trans hi56
              have hi202 := (hI193 65 (by decide)).trans hi57
              have hi203 := (hI193 68 (by decide)).trans hi59
              have hi204 := (hI193 69 (by decide)).trans hi60
              have hi205 := (hI193 70 (by decide)).trans hi61
              have hi206 := (hI193 72 (by decide)).trans hi62
              have hi207 := (hI193 66 (by decide)).trans hi47
              have hF_208 := hF_63.mono (cIx hI193 (by decide)) (cRx hX194 (by decide))
              have hY_209 := hY_64.mono (cIx hI193 (by decide)) (cRx hX194 (by decide))
              have hP_210 := hP_65.mono (cIx hI193 (by decide)) (cRx hX194 (by decide))
              have hK_211 := hK_66.mono (cIx hI193 (by decide)) (cRx hX194 (by decide))
              have hEI212 := hEI67.tr hI193 (by decide)
              have hER213 := hER1.tr hX194 (by decide)
              show pl _ _ _ (209, [(0, .ref m0), (2, .int 4), (3, .int (nI x)), (4, .int (nI (by2 f p1))), (5, .int (nI p)), (6, .int (nI s3)), (7, .int (nI i)), (8, .int (nI (by4 f (p + 2)))), (10, .int (nI w))], [.int 0], M188) _
              refine ps_st (S' := (210, [(0, .ref m0), (2, .int 4), (3, .int (nI x)), (4, .int (nI (by2 f p1))), (5, .int (nI p)), (6, .int (nI s3)), (7, .int (nI i)), (8, .int (nI (by4 f (p + 2)))), (10, .int (nI w))], [], M188)) rfl rfl rfl ?_
              refine ps_st (S' := (211, [(0, .ref m0), (2, .int 4), (3, .int (nI x)), (4, .int (nI (by2 f p1))), (5, .int (nI p)), (6, .int (nI s3)), (7, .int (nI i)), (8, .int (nI (by4 f (p + 2)))), (10, .int (nI w))], [.int (-1)], M188)) rfl rfl rfl ?_
              exact ps_ret rfl rfl (Or.inl ⟨(29, p), I190, R191, by
                  rw [← hs9, clS_29 (i := i) (p := p) (s := s2) hi0 h1 hsm hw2.1 (by omega)], rfl, hR192, hEI212, hER213, hi195, hi196⟩)
        · have c_86 : ¬ ((nI 10) ≤ (nI k)) := of_decide_eq_false c_86
          have n_86 : ¬ (10 ≤ k) := fun h9 => c_86 ((le_nI (p := 10) (n := k) (by decide) (by omega)).mpr h9)
          refine ps_st (S' := (90, [(0, .ref m0), (2, .int 4), (3, .int (nI x)), (4, .int (nI (by2 f p1))), (5, .int (nI p)), (6, .int (nI s3)), (7, .int (nI i)), (8, .int (nI (by4 f (p + 2)))), (9, .int (nI t)), (10, .int (gI (kb mj 4 (tX f n E (by2 f p)) k))), (11, .int (nI k))], [.ref m0], M1)) rfl rfl rfl ?_
          refine pr_ref (j := 63) (S' := (93, [(0, .ref m0), (2, .int 4), (3, .int (nI x)), (4, .int (nI (by2 f p1))), (5, .int (nI p)), (6, .int (nI s3)), (7, .int (nI i)), (8, .int (nI (by4 f (p + 2)))), (9, .int (nI t)), (10, .int (gI (kb mj 4 (tX f n E (by2 f p)) k))), (11, .int (nI k))], [.ref (q 63)], M1)) rfl hR1 rfl rfl ?_
          refine ps_st (S' := (95, [(0, .ref m0), (2, .int 4), (3, .int (nI x)), (4, .int (nI (by2 f p1))), (5, .int (nI p)), (6, .int (nI s3)), (7, .int (nI i)), (8, .int (nI (by4 f (p + 2)))), (9, .int (nI t)), (10, .int (gI (kb mj 4 (tX f n E (by2 f p)) k))), (11, .int (nI k))], [.int (nI k), .ref (q 63)], M1)) rfl rfl rfl ?_
          have hki_95 := kiN_lt k
          refine pr_ld (a := 63) (j := k) (y := (nI (kiN k))) (S' := (96, [(0, .ref m0), (2, .int 4), (3, .int (nI x)), (4, .int (nI (by2 f p1))), (5, .int (nI p)), (6, .int (nI s3)), (7, .int (nI i)), (8, .int (nI (by4 f (p + 2)))), (9, .int (nI t)), (10, .int (gI (kb mj 4 (tX f n E (by2 f p)) k))), (11, .int (nI k))], [.int (nI (kiN k))], M1)) rfl hR1 rfl (by omega) (fun _ => (hK1 k (by omega)).1) rfl (fun i1_95 => ?_)
          refine ps_st (S' := (97, [(0, .ref m0), (2, .int 4), (3, .int (nI x)), (4, .int (nI (by2 f p1))), (5, .int (nI p)), (6, .int (nI s3)), (7, .int (nI i)), (8, .int (nI (by4 f (p + 2)))), (9, .int (nI t)), (10, .int (gI (kb mj 4 (tX f n E (by2 f p)) k))), (11, .int (nI k))], [.int 4, .int (nI (kiN k))], M1)) rfl rfl rfl ?_
          refine ps_if2 (S1 := (134, [(0, .ref m0), (2, .int 4), (3, .int (nI x)), (4, .int (nI (by2 f p1))), (5, .int (nI p)), (6, .int (nI s3)), (7, .int (nI i)), (8, .int (nI (by4 f (p + 2)))), (9, .int (nI t)), (10, .int (gI (kb mj 4 (tX f n E (by2 f p)) k))), (11, .int (nI k))], [], M1)) (S2 := (100, [(0, .ref m0), (2, .int 4), (3, .int (nI x)), (4, .int (nI (by2 f p1))), (5, .int (nI p)), (6, .int (nI s3)), (7, .int (nI i)), (8, .int (nI (by4 f (p + 2)))), (9, .int (nI t)), (10, .int (gI (kb mj 4 (tX f n E (by2 f p)) k))), (11, .int (nI k))], [], M1)) rfl rfl rfl (fun c_97 => ?_) (fun c_97 => ?_)
          · have c_97 : ¬ (nI (kiN k)) = 4 := of_decide_eq_true c_97
            have n_97 : ¬ (kiN k = 4) := fun h9 => c_97 ((eq_nI (p := kiN k) (n := 4) (Nat.lt_trans (kiN_lt _) (by decide)) (by decide)).mpr h9)
            refine ps_st (S' := (137, [(11, .int ((nI k) + 1)), (0, .ref m0), (2, .int 4), (3, .int (nI x)), (4, .int (nI (by2 f p1))), (5, .int (nI p)), (6, .int (nI s3)), (7, .int (nI i)), (8, .int (nI (by4 f (p + 2)))), (9, .int (nI t)), (10, .int (gI (kb mj 4 (tX f n E (by2 f p)) k)))], [], M1)) rfl rfl rfl ?_
            rw [nI_add1 (p := k) (k := 1) (x := 1) rfl (by omega)]
            show pl _ _ _ (_, [(11, .int (nI (k + 1))), (0, .ref m0), (2, .int 4), (3, .int (nI x)), (4, .int (nI (by2 f p1))), (5, .int (nI p)), (6, .int (nI s3)), (7, .int (nI i)), (8, .int (nI (by4 f (p + 2)))), (9, .int (nI t)), (10, .int (gI (kb mj 4 (tX f n E (by2 f p)) k)))], [], M1) _
            refine ps_st (S' := (79, [(0, .ref m0), (2, .int 4), (3, .int (nI x)), (4, .int (nI (by2 f p1))), (5, .int (nI p)), (6, .int (nI s3)), (7, .int (nI i)), (8, .int (nI (by4 f (p + 2)))), (9, .int (nI t)), (10, .int (gI (kb mj 4 (tX f n E (by2 f p)) k))), (11, .int (nI (k + 1)))], [], M1)) rfl rfl rfl ?_
            have hkb : (gI (kb mj 4 (tX f n E (by2 f p)) k)) = gI (kb mj 4 (tX f n E (by2 f p)) (k + 1)) := by
              conv => rhs; unfold kb
              rw [if_neg (by omega)]
            rw [hkb]
            exact ih.2 (i) (p) (s2) (s3) (k + 1) (t) (bc) (K) M1 I1 R1 hR1 hEI1 hER1 hl51 hl52 hl53 hl58 hl71 hl66 hl65 hl68 hl69 hl70 hl72 hF1 hY1 hP1 hK1 (hi0) (hl) (hb) (ha) (hs9) (hu) (hkn) (by omega) (h1) (hsy)
          · have c_97 : ¬ (¬ (nI (kiN k)) = 4) := of_decide_eq_false c_97
            have n_97 : kiN k = 4 := (eq_nI (p := kiN k) (n := 4) (Nat.lt_trans (kiN_lt _) (by decide)) (by decide)).mp (Decidable.not_not.mp c_97)
            refine ps_st (S' := (101, [(0, .ref m0), (2, .int 4), (3, .int (nI x)), (4, .int (nI (by2 f p1))), (5, .int (nI p)), (6, .int (nI s3)), (7, .int (nI i)), (8, .int (nI (by4 f (p + 2)))), (9, .int (nI t)), (10, .int (gI (kb mj 4 (tX f n E (by2 f p)) k))), (11, .int (nI k))], [.ref m0], M1)) rfl rfl rfl ?_
            refine pr_int (j := 53) (S' := (104, [(0, .ref m0), (2, .int 4), (3, .int (nI x)), (4, .int (nI (by2 f p1))), (5, .int (nI p)), (6, .int (nI s3)), (7, .int (nI i)), (8, .int (nI (by4 f (p + 2)))), (9, .int (nI t)), (10, .int (gI (kb mj 4 (tX f n E (by2 f p)) k))), (11, .int (nI k))], [.int (nI mj)], M1)) rfl hR1 rfl hl53 rfl ?_
            refine ps_st (S' := (105, [(0, .ref m0), (2, .int 4), (3, .int (nI x)), (4, .int (nI (by2 f p1))), (5, .int (nI p)), (6, .int (nI s3)), (7, .int (nI i)), (8, .int (nI (by4 f (p + 2)))), (9, .int (nI t)), (10, .int (gI (kb mj 4 (tX f n E (by2 f p)) k))), (11, .int (nI k))], [.ref m0, .int (nI mj)], M1)) rfl rfl rfl ?_
            refine pr_ref (j := 64) (S' := (108, [(0, .ref m0), (2, .int 4), (3, .int (nI x)), (4, .int (nI (by2 f p1))), (5, .int (nI p)), (6, .int (nI s3)), (7, .int (nI i)), (8, .int (nI (by4 f (p + 2)))), (9, .int (nI t)), (10, .int (gI (kb mj 4 (tX f n E (by2 f p)) k))), (11, .int (nI k))], [.ref (q 64), .int (nI mj)], M1)) rfl hR1 rfl rfl ?_
            refine ps_st (S' := (110, [(0, .ref m0), (2, .int 4), (3, .int (nI x)), (4, .int (nI (by2 f p1))), (5, .int (nI p)), (6, .int (nI s3)), (7, .int (nI i)), (8, .int (nI (by4 f (p + 2)))), (9, .int (nI t)), (10, .int (gI (kb mj 4 (tX f n E (by2 f p)) k))), (11, .int (nI k))], [.int (nI k), .ref (q 64), .int (nI mj)], M1)) rfl rfl rfl ?_
            have hkf_110 := kfN_lt k
            refine pr_ld (a := 64) (j := k) (y := (nI (kfN k))) (S' := (111, [(0, .ref m0), (2, .int 4), (3, .int (nI x)), (4, .int (nI (by2 f p1))), (5, .int (nI p)), (6, .int (nI s3)), (7, .int (nI i)), (8, .int (nI (by4 f (p + 2)))), (9, .int (nI t)), (10, .int (gI (kb mj 4 (tX f n E (by2 f p)) k))), (11, .int (nI k))], [.int (nI (kfN k)), .int (nI mj)], M1)) rfl hR1 rfl (by omega) (fun _ => (hK1 k (by omega)).2) rfl (fun i1_110 => ?_)
            refine ps_if2 (S1 := (134, [(0, .ref m0), (2, .int 4), (3, .int (nI x)), (4, .int (nI (by2 f p1))), (5, .int (nI p)), (6, .int (nI s3)), (7, .int (nI i)), (8, .int (nI (by4 f (p + 2)))), (9, .int (nI t)), (10, .int (gI (kb mj 4 (tX f n E (by2 f p)) k))), (11, .int (nI k))], [], M1)) (S2 := (114, [(0, .ref m0), (2, .int 4), (3, .int (nI x)), (4, .int (nI (by2 f p1))), (5, .int (nI p)), (6, .int (nI s3)), (7, .int (nI i)), (8, .int (nI (by4 f (p + 2)))), (9, .int (nI t)), (10, .int (gI (kb mj 4 (tX f n E (by2 f p)) k))), (11, .int (nI k))], [], M1)) rfl rfl rfl (fun c_111 => ?_) (fun c_111 => ?_)
            · have c_111 : (nI mj) < (nI (kfN k)) := of_decide_eq_true c_111
              have n_111 : mj < kfN k := (lt_nI (p := mj) (n := kfN k) (by omega) (Nat.lt_trans (kfN_lt _) (by decide))).mp c_111
              refine ps_st (S' := (137, [(11, .int ((nI k) + 1)), (0, .ref m0), (2, .int 4), (3, .int (nI x)), (4, .int (nI (by2 f p1))), (5, .int (nI p)), (6, .int (nI s3)), (7, .int (nI i)), (8, .int (nI (by4 f (p + 2)))), (9, .int (nI t)), (10, .int (gI (kb mj 4 (tX f n E (by2 f p)) k)))], [], M1)) rfl rfl rfl ?_
              rw [nI_add1 (p := k) (k := 1) (x := 1) rfl (by omega)]
              show pl _ _ _ (_, [(11, .int (nI (k + 1))), (0, .ref m0), (2, .int 4), (3, .int (nI x)), (4, .int (nI (by2 f p1))), (5, .int (nI p)), (6, .int (nI s3)), (7, .int (nI i)), (8, .int (nI (by4 f (p + 2)))), (9, .int (nI t)), (10, .int (gI (kb mj 4 (tX f n E (by2 f p)) k)))], [], M1) _
              refine ps_st (S' := (79, [(0, .ref m0), (2, .int 4), (3, .int (nI x)), (4, .int (nI (by2 f p1))), (5, .int (nI p)), (6, .int (nI s3)), (7, .int (nI i)), (8, .int (nI (by4 f (p + 2)))), (9, .int (nI t)), (10, .int (gI (kb mj 4 (tX f n E (by2 f p)) k))), (11, .int (nI (k + 1)))], [], M1)) rfl rfl rfl ?_
              have hkb : (gI (kb mj 4 (tX f n E (by2 f p)) k)) = gI (kb mj 4 (tX f n E (by2 f p)) (k + 1)) := by
                conv => rhs; unfold kb
                rw [if_neg (by omega)]
              rw [hkb]
              exact ih.2 (i) (p) (s2) (s3) (k + 1) (t) (bc) (K) M1 I1 R1 hR1 hEI1 hER1 hl51 hl52 hl53 hl58 hl71 hl66 hl65 hl68 hl69 hl70 hl72 hF1 hY1 hP1 hK1 (hi0) (hl) (hb) (ha) (hs9) (hu) (hkn) (by omega) (h1) (hsy)
            · have c_111 : ¬ ((nI mj) < (nI (kfN k))) := of_decide_eq_false c_111
              have n_111 : ¬ (mj < kfN k) := fun h9 => c_111 ((lt_nI (p := mj) (n := kfN k) (by omega) (Nat.lt_trans (kfN_lt _) (by decide))).mpr h9)
              refine ps_st (S' := (115, [(0, .ref m0), (2, .int 4), (3, .int (nI x)), (4, .int (nI (by2 f p1))), (5, .int (nI p)), (6, .int (nI s3)), (7, .int (nI i)), (8, .int (nI (by4 f (p + 2)))), (9, .int (nI t)), (10, .int (gI (kb mj 4 (tX f n E (by2 f p)) k))), (11, .int (nI k))], [.ref m0], M1)) rfl rfl rfl ?_
              refine ps_st (S' := (117, [(0, .ref m0), (2, .int 4), (3, .int (nI x)), (4, .int (nI (by2 f p1))), (5, .int (nI p)), (6, .int (nI s3)), (7, .int (nI i)), (8, .int (nI (by4 f (p + 2)))), (9, .int (nI t)), (10, .int (gI (kb mj 4 (tX f n E (by2 f p)) k))), (11, .int (nI k))], [.int (nI t), .ref m0], M1)) rfl rfl rfl ?_
              refine ps_st (S' := (118, [(0, .ref m0), (2, .int 4), (3, .int (nI x)), (4, .int (nI (by2 f p1))), (5, .int (nI p)), (6, .int (nI s3)), (7, .int (nI i)), (8, .int (nI (by4 f (p + 2)))), (9, .int (nI t)), (10, .int (gI (kb mj 4 (tX f n E (by2 f p)) k))), (11, .int (nI k))], [.ref m0, .int (nI t), .ref m0], M1)) rfl rfl rfl ?_
              refine pr_ref (j := 62) (S' := (121, [(0, .ref m0), (2, .int 4), (3, .int (nI x)), (4, .int (nI (by2 f p1))), (5, .int (nI p)), (6, .int (nI s3)), (7, .int (nI i)), (8, .int (nI (by4 f (p + 2)))), (9, .int (nI t)), (10, .int (gI (kb mj 4 (tX f n E (by2 f p)) k))), (11, .int (nI k))], [.ref (q 62), .int (nI t), .ref m0], M1)) rfl hR1 rfl rfl ?_
              refine ps_st (S' := (123, [(0, .ref m0), (2, .int 4), (3, .int (nI x)), (4, .int (nI (by2 f p1))), (5, .int (nI p)), (6, .int (nI s3)), (7, .int (nI i)), (8, .int (nI (by4 f (p + 2)))), (9, .int (nI t)), (10, .int (gI (kb mj 4 (tX f n E (by2 f p)) k))), (11, .int (nI k))], [.int (nI k), .ref (q 62), .int (nI t), .ref m0], M1)) rfl rfl rfl ?_
              refine pr_kn (j := k) (S' := (124, [(0, .ref m0), (2, .int 4), (3, .int (nI x)), (4, .int (nI (by2 f p1))), (5, .int (nI p)), (6, .int (nI s3)), (7, .int (nI i)), (8, .int (nI (by4 f (p + 2)))), (9, .int (nI t)), (10, .int (gI (kb mj 4 (tX f n E (by2 f p)) k))), (11, .int (nI k))], [.ref (g.2.1 (15 + k)), .int (nI t), .ref m0], M1)) rfl hR1 (by omega) rfl ?_
              refine pl_call (a := [.ref m0, .int (nI t), .ref (g.2.1 (15 + k))]) (rest := []) rfl rfl rfl (rd_is (tx := tx) (cN := cN) (A := A) (s := t) (l := (tX f n E (by2 f p))) (lk := (15 + k)) hR1 hY1 (hsy) (⟨by omega, by omega⟩)) (fun v214 M215 q216 => ?_)
              obtain ⟨rfl, rfl⟩ := q216
              show pl _ _ _ (127, [(0, .ref m0), (2, .int 4), (3, .int (nI x)), (4, .int (nI (by2 f p1))), (5, .int (nI p)), (6, .int (nI s3)), (7, .int (nI i)), (8, .int (nI (by4 f (p + 2)))), (9, .int (nI t)), (10, .int (gI (kb mj 4 (tX f n E (by2 f p)) k))), (11, .int (nI k))], [.int (nI (eqN (tX f n E (by2 f p)) (ltx (15 + k))))], M1) _
              refine ps_if (S1 := (134, [(0, .ref m0), (2, .int 4), (3, .int (nI x)), (4, .int (nI (by2 f p1))), (5, .int (nI p)), (6, .int (nI s3)), (7, .int (nI i)), (8, .int (nI (by4 f (p + 2)))), (9, .int (nI t)), (10, .int (gI (kb mj 4 (tX f n E (by2 f p)) k))), (11, .int (nI k))], [], M1)) (S2 := (130, [(0, .ref m0), (2, .int 4), (3, .int (nI x)), (4, .int (nI (by2 f p1))), (5, .int (nI p)), (6, .int (nI s3)), (7, .int (nI i)), (8, .int (nI (by4 f (p + 2)))), (9, .int (nI t)), (10, .int (gI (kb mj 4 (tX f n E (by2 f p)) k))), (11, .int (nI k))], [], M1)) rfl rfl rfl (fun c_127 => ?_) (fun c_127 => ?_)
              · have c_127 : (nI (eqN (tX f n E (by2 f p)) (ltx (15 + k)))) = 0 := of_decide_eq_true c_127
                have n_127 : eqN (tX f n E (by2 f p)) (ltx (15 + k)) = 0 := (eq_nI (p := eqN (tX f n E (by2 f p)) (ltx (15 + k))) (n := 0) (Nat.lt_trans (le1_eq _ _) (by decide)) (by decide)).mp c_127
                refine ps_st (S' := (137, [(11, .int ((nI k) + 1)), (0, .ref m0), (2, .int 4), (3, .int (nI x)), (4, .int (nI (by2 f p1))), (5, .int (nI p)), (6, .int (nI s3)), (7, .int (nI i)), (8, .int (nI (by4 f (p + 2)))), (9, .int (nI t)), (10, .int (gI (kb mj 4 (tX f n E (by2 f p)) k)))], [], M1)) rfl rfl rfl ?_
                rw [nI_add1 (p := k) (k := 1) (x := 1) rfl (by omega)]
                show pl _ _ _ (_, [(11, .int (nI (k + 1))), (0, .ref m0), (2, .int 4), (3, .int (nI x)), (4, .int (nI (by2 f p1))), (5, .int (nI p)), (6, .int (nI s3)), (7, .int (nI i)), (8, .int (nI (by4 f (p + 2)))), (9, .int (nI t)), (10, .int (gI (kb mj 4 (tX f n E (by2 f p)) k)))], [], M1) _
                refine ps_st (S' := (79, [(0, .ref m0), (2, .int 4), (3, .int (nI x)), (4, .int (nI (by2 f p1))), (5, .int (nI p)), (6, .int (nI s3)), (7, .int (nI i)), (8, .int (nI (by4 f (p + 2)))), (9, .int (nI t)), (10, .int (gI (kb mj 4 (tX f n E (by2 f p)) k))), (11, .int (nI (k + 1)))], [], M1)) rfl rfl rfl ?_
                have hkb : (gI (kb mj 4 (tX f n E (by2 f p)) k)) = gI (kb mj 4 (tX f n E (by2 f p)) (k + 1)) := by
                  conv => rhs; unfold kb
                  rw [if_neg (by omega)]
                rw [hkb]
                exact ih.2 (i) (p) (s2) (s3) (k + 1) (t) (bc) (K) M1 I1 R1 hR1 hEI1 hER1 hl51 hl52 hl53 hl58 hl71 hl66 hl65 hl68 hl69 hl70 hl72 hF1 hY1 hP1 hK1 (hi0) (hl) (hb) (ha) (hs9) (hu) (hkn) (by omega) (h1) (hsy)
              · have c_127 : ¬ ((nI (eqN (tX f n E (by2 f p)) (ltx (15 + k)))) = 0) := of_decide_eq_false c_127
                have n_127 : ¬ (eqN (tX f n E (by2 f p)) (ltx (15 + k)) = 0) := fun h9 => c_127 ((eq_nI (p := eqN (tX f n E (by2 f p)) (ltx (15 + k))) (n := 0) (Nat.lt_trans (le1_eq _ _) (by decide)) (by decide)).mpr h9)
                refine ps_st (S' := (132, [(0, .ref m0), (2, .int 4), (3, .int (nI x)), (4, .int (nI (by2 f p1))), (5, .int (nI p)), (6, .int (nI s3)), (7, .int (nI i)), (8, .int (nI (by4 f (p + 2)))), (9, .int (nI t)), (10, .int (gI (kb mj 4 (tX f n E (by2 f p)) k))), (11, .int (nI k))], [.int (nI k)], M1)) rfl rfl rfl ?_
                refine ps_st (S' := (134, [(0, .ref m0), (2, .int 4), (3, .int (nI x)), (4, .int (nI (by2 f p1))), (5, .int (nI p)), (6, .int (nI s3)), (7, .int (nI i)), (8, .int (nI (by4 f (p + 2)))), (9, .int (nI t)), (10, .int (nI k)), (11, .int (nI k))], [], M1)) rfl rfl rfl ?_
                refine ps_st (S' := (137, [(11, .int ((nI k) + 1)), (0, .ref m0), (2, .int 4), (3, .int (nI x)), (4, .int (nI (by2 f p1))), (5, .int (nI p)), (6, .int (nI s3)), (7, .int (nI i)), (8, .int (nI (by4 f (p + 2)))), (9, .int (nI t)), (10, .int (nI k))], [], M1)) rfl rfl rfl ?_
                rw [nI_add1 (p := k) (k := 1) (x := 1) rfl (by omega)]
                show pl _ _ _ (_, [(11, .int (nI (k + 1))), (0, .ref m0), (2, .int 4), (3, .int (nI x)), (4, .int (nI (by2 f p1))), (5, .int (nI p)), (6, .int (nI s3)), (7, .int (nI i)), (8, .int (nI (by4 f (p + 2)))), (9, .int (nI t)), (10, .int (nI k))], [], M1) _
                refine ps_st (S' := (79, [(0, .ref m0), (2, .int 4), (3, .int (nI x)), (4, .int (nI (by2 f p1))), (5, .int (nI p)), (6, .int (nI s3)), (7, .int (nI i)), (8, .int (nI (by4 f (p + 2)))), (9, .int (nI t)), (10, .int (nI k)), (11, .int (nI (k + 1)))], [], M1)) rfl rfl rfl ?_
                have hkb : (nI k) = gI (kb mj 4 (tX f n E (by2 f p)) (k + 1)) := by
                  conv => rhs; unfold kb
                  rw [if_pos ⟨by omega, by omega, by omega⟩]
                  rfl
                rw [hkb]
                exact ih.2 (i) (p) (s2) (s3) (k + 1) (t) (bc) (K) M1 I1 R1 hR1 hEI1 hER1 hl51 hl52 hl53 hl58 hl71 hl66 hl65 hl68 hl69 hl70 hl72 hF1 hY1 hP1 hK1 (hi0) (hl) (hb) (ha) (hs9) (hu) (hkn) (by omega) (h1) (hsy)
  refine ps_st (S' := (1, [(0, .ref m0), (1, .int (nI p1)), (2, .int 4), (3, .int (nI x))], [.ref m0], M)) rfl rfl rfl ?_
  refine ps_st (S' := (2, [(0, .ref m0), (1, .int (nI p1)), (2, .int 4), (3, .int (nI x))], [.int (nI p1), .ref m0], M)) rfl rfl rfl ?_
  refine pl_call (a := [.ref m0, .int (nI p1)]) (rest := []) rfl rfl rfl (rd_u2 (n := n) (f := f) (p := p1) hR hF (by omega)) (fun v217 M218 q219 => ?_)
  obtain ⟨rfl, rfl⟩ := q219
  show pl _ _ _ (5, [(0, .ref m0), (1, .int (nI p1)), (2, .int 4), (3, .int (nI x))], [.int (nI (by2 f p1))], M) _
  have hu_2 := by2_lt f p1
  refine ps_st (S' := (7, [(4, .int (nI (by2 f p1))), (0, .ref m0), (1, .int (nI p1)), (2, .int 4), (3, .int (nI x))], [], M)) rfl rfl rfl ?_
  refine ps_st (S' := (8, [(4, .int (nI (by2 f p1))), (0, .ref m0), (1, .int (nI p1)), (2, .int 4), (3, .int (nI x))], [.int (nI p1)], M)) rfl rfl rfl ?_
  refine ps_st (S' := (9, [(4, .int (nI (by2 f p1))), (0, .ref m0), (1, .int (nI p1)), (2, .int 4), (3, .int (nI x))], [.int 2, .int (nI p1)], M)) rfl rfl rfl ?_
  refine ps_st (S' := (10, [(4, .int (nI (by2 f p1))), (0, .ref m0), (1, .int (nI p1)), (2, .int 4), (3, .int (nI x))], [.int ((nI p1) + 2)], M)) rfl rfl rfl ?_
  rw [nI_add1 (p := p1) (k := 2) (x := 2) rfl (by omega)]
  show pl _ _ _ (_, [(4, .int (nI (by2 f p1))), (0, .ref m0), (1, .int (nI p1)), (2, .int 4), (3, .int (nI x))], [.int (nI (p1 + 2))], M) _
  refine ps_st (S' := (12, [(5, .int (nI (p1 + 2))), (4, .int (nI (by2 f p1))), (0, .ref m0), (1, .int (nI p1)), (2, .int 4), (3, .int (nI x))], [], M)) rfl rfl rfl ?_
  refine ps_st (S' := (13, [(5, .int (nI (p1 + 2))), (4, .int (nI (by2 f p1))), (0, .ref m0), (1, .int (nI p1)), (2, .int 4), (3, .int (nI x))], [.int 0], M)) rfl rfl rfl ?_
  refine ps_st (S' := (15, [(6, .int 0), (5, .int (nI (p1 + 2))), (4, .int (nI (by2 f p1))), (0, .ref m0), (1, .int (nI p1)), (2, .int 4), (3, .int (nI x))], [], M)) rfl rfl rfl ?_
  refine ps_st (S' := (16, [(6, .int 0), (5, .int (nI (p1 + 2))), (4, .int (nI (by2 f p1))), (0, .ref m0), (1, .int (nI p1)), (2, .int 4), (3, .int (nI x))], [.int 0], M)) rfl rfl rfl ?_
  refine ps_st (S' := (18, [(0, .ref m0), (2, .int 4), (3, .int (nI x)), (4, .int (nI (by2 f p1))), (5, .int (nI (p1 + 2))), (6, .int 0), (7, .int 0)], [], M)) rfl rfl rfl ?_
  exact (LL kf).1 (0) (p1 + 2) (0) (0) (0) ((0, 0, 0, 0, 0, -1)) M I R hR hEI hER hi51 hi52 hi53 hi58 hi71 hi66 hi65 hi68 hi69 hi70 hi72 hF hY hP hK (by omega) (by decide) (fun w _ _ => by rw [sb_0, sb_0]) (hat) (rfl) (rfl) (Nat.le_refl _)
