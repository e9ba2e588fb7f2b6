section
/-! fields and methods in the reference's rows (my own text) -/
/-- a cell of a row -/
def CE (a x : Nat) (v : Int32) (I : rI) (R : rR) : Prop := R a x = some v
theorem CE.mono {a x : Nat} {v : Int32} {I I' : rI} {R R' : rR} (h : CE a x v I R) (hI : ∀ k, k ∈ ([] : List Nat) → I' k = I k) (hR : ∀ k, k ∈ [a] → R' k = R k) : CE a x v I' R' := by
  unfold CE
  rw [hR a List.mem_cons_self]
  exact h
theorem CE.st {a x : Nat} {v : Int32} {I : rI} {R R' : rR} (h : R' = rset R a x v) : CE a x v I R' := by
  unfold CE
  rw [h, rset_at]
/-- members' heads: where they begin, where they end -/
def MBS (f : Nat → Int32) (n : Nat) (B : List Nat) (p : Nat) (E1 : Nat → Nat) : Prop := B.length = by2 f p ∧ p + 2 ≤ n ∧ (0 < B.length → B.getD 0 0 = p + 2) ∧
  ∀ i, i < B.length → B.getD i 0 + 8 ≤ E1 i ∧ E1 i ≤ n ∧ s_atE f (E1 i) (by2 f (B.getD i 0 + 6)) (B.getD i 0 + 8) = some (E1 i) ∧ (i + 1 < B.length → B.getD (i + 1) 0 = E1 i)
/-- names and descriptors of the members that were kept, in the rows a and b from number f0 on -/
def FN (a b : Nat) (f : Nat → Int32) (n : Nat) (E : List (Nat × Nat)) (tx : List (List Nat)) (B : List Nat) (f0 k : Nat) (I : rI) (R : rR) : Prop := ∀ j, j < k → ∃ s d, R a (f0 + j) = some (nI s) ∧ R b (f0 + j) = some (nI d) ∧
  (s < tx.length ∧ tx.getD s [] = tX f n E (by2 f (B.getD j 0 + 2))) ∧ (d < tx.length ∧ tx.getD d [] = tX f n E (by2 f (B.getD j 0 + 4))) ∧ tg f E (by2 f (B.getD j 0 + 2)) = 1 ∧ tg f E (by2 f (B.getD j 0 + 4)) = 1
theorem FN.mono {a b : Nat} {f : Nat → Int32} {n : Nat} {E : List (Nat × Nat)} {tx : List (List Nat)} {B : List Nat} {f0 k : Nat} {I I' : rI} {R R' : rR} (h : FN a b f n E tx B f0 k I R) (hI : ∀ k, k ∈ ([] : List Nat) → I' k = I k) (hR : ∀ k, k ∈ [a, b] → R' k = R k) : FN a b f n E tx B f0 k I' R' := by
  unfold FN
  rw [hR a (by simp), hR b (by simp)]
  exact h
theorem FN.st {a b c x : Nat} {v : Int32} {f : Nat → Int32} {n : Nat} {E : List (Nat × Nat)} {tx : List (List Nat)} {B : List Nat} {f0 k : Nat} {I I' : rI} {R R' : rR} (h : FN a b f n E tx B f0 k I R) (hs : R' = rset R c x v) (hx : x = f0 + k) : FN a b f n E tx B f0 k I' R' := fun j hj => by
  obtain ⟨s, d, h1, h2, h3⟩ := h j hj
  refine ⟨s, d, ?_, ?_, h3⟩
  · rw [hs]
    by_cases e : a = c
    · rw [e] at h1 ⊢
      rw [rset_el (by omega)]
      exact h1
    · rw [rset_ne e]
      exact h1
  · rw [hs]
    by_cases e : b = c
    · rw [e] at h2 ⊢
      rw [rset_el (by omega)]
      exact h2
    · rw [rset_ne e]
      exact h2
theorem FN.more {a b s d p : Nat} {f : Nat → Int32} {n : Nat} {E : List (Nat × Nat)} {tx : List (List Nat)} {B : List Nat} {f0 k : Nat} {I : rI} {R : rR} (h : FN a b f n E tx B f0 k I R) (hp : p = B.getD k 0) (h1 : CE a (f0 + k) (nI s) I R) (h2 : CE b (f0 + k) (nI d) I R) (h3 : s < tx.length ∧ tx.getD s [] = tX f n E (by2 f (p + 2))) (h4 : d < tx.length ∧ tx.getD d [] = tX f n E (by2 f (p + 4))) (t1 : tg f E (by2 f (p + 2)) = 1) (t2 : tg f E (by2 f (p + 4)) = 1) : FN a b f n E tx B f0 (k + 1) I R := fun j hj => by
  by_cases e : j = k
  · rw [e, ← hp]
    exact ⟨s, d, h1, h2, h3, h4, t1, t2⟩
  · exact h j (by omega)
theorem ffl_0 (c x : Nat) : fflN c x = 0 ↔ (oneN x = 0 ∨ ¬ hallN x 80 = 0 ∨ (¬ aN c 512 = 0 ∧ ¬ aN x 16607 = 25)) := by
  have h1 := ffl_25 x
  have h2 := has_0 c 512
  unfold fflN
  split
  · split <;> omega
  · split <;> omega

section FHS
variable {f : Nat → Int32} {n : Nat} {E : List (Nat × Nat)} {c k p : Nat} {B : List Nat}
theorem fh_19 (h : fflN c (by2 f p) = 0) : fhS f n E c B k p = some (19, p) := by
  unfold fhS
  rw [if_pos h]
theorem fh_20 (h : ¬ fflN c (by2 f p) = 0) (h1 : unqN (tX f n E (by2 f (p + 2))) = 0) : fhS f n E c B k p = some (20, p + 2) := by
  unfold fhS
  rw [if_neg h, if_pos h1]
theorem fh_21 (h : ¬ fflN c (by2 f p) = 0) (h1 : ¬ unqN (tX f n E (by2 f (p + 2))) = 0) (h2 : fldN (tX f n E (by2 f (p + 4))) = 0) : fhS f n E c B k p = some (21, p + 4) := by
  unfold fhS
  rw [if_neg h, if_neg h1, if_pos h2]
theorem fh_22 (hp : p = B.getD k 0) (h : ¬ fflN c (by2 f p) = 0) (h1 : ¬ unqN (tX f n E (by2 f (p + 2))) = 0) (h2 : ¬ fldN (tX f n E (by2 f (p + 4))) = 0) (h3 : ¬ smeS f n E B (by2 f (p + 2)) (by2 f (p + 4)) k 0 = none) : fhS f n E c B k p = some (22, p) := by
  unfold fhS
  rw [if_neg h, if_neg h1, if_neg h2, if_neg h3]
theorem fh_n (hp : p = B.getD k 0) (h : ¬ fflN c (by2 f p) = 0) (h1 : ¬ unqN (tX f n E (by2 f (p + 2))) = 0) (h2 : ¬ fldN (tX f n E (by2 f (p + 4))) = 0) (h3 : smeS f n E B (by2 f (p + 2)) (by2 f (p + 4)) k 0 = none) : fhS f n E c B k p = none := by
  unfold fhS
  rw [if_neg h, if_neg h1, if_neg h2, if_pos h3]
end FHS
end
section
/-! methods' heads, as the reference checks them (my own text) -/
section MMA
variable {f : Nat → Int32} {n : Nat} {E : List (Nat × Nat)} {mj wa c k p x y d w : Nat} {B : List Nat} {l : List Nat}
theorem ic_no : eqN l (ltx 12) = 0 ∨ eqN l (ltx 13) = 0 := by
  by_cases h : l = ltx 12
  · refine Or.inr ?_
    unfold eqN
    rw [if_neg]
    rw [h]
    decide +kernel
  · refine Or.inl ?_
    unfold eqN
    rw [if_neg h]
theorem ic_nil : eqN [] (ltx 12) = 0 ∧ eqN [] (ltx 13) = 0 := by decide +kernel
theorem mnm_0 : mnmN f n E c x = 0 ↔ (¬ eqN (tX f n E x) (ltx 12) = 0 ∧ ¬ aN c 512 = 0) ∨ (eqN (tX f n E x) (ltx 12) = 0 ∧ eqN (tX f n E x) (ltx 13) = 0 ∧ ¬ (¬ unqN (tX f n E x) = 0 ∧ angN (tX f n E x) = 0)) := by
  have h1 := has_0 c 512
  unfold mnmN
  split
  · split <;> omega
  · split <;> omega
theorem mnm_no (h : ¬ tg f E x = 1) : mnmN f n E c x = 0 := by
  rw [mnm_0, tx_no h]
  exact Or.inr ⟨ic_nil.1, ic_nil.2, fun h9 => h9.1 (by decide)⟩
theorem mfl_c (h : ¬ eqN (tX f n E y) (ltx 13) = 0) : mflN f n E c mj x y = 1 := by
  unfold mflN
  rw [if_pos h]
theorem mfl_i (h : eqN (tX f n E y) (ltx 13) = 0) (h1 : ¬ eqN (tX f n E y) (ltx 12) = 0) : mflN f n E c mj x y = fitN mj c x 1 := by
  unfold mflN fitN
  rw [if_neg (by omega), if_pos h1, if_pos (show ¬ (1 : Nat) = 0 by decide)]
theorem mfl_n (h : eqN (tX f n E y) (ltx 13) = 0) (h1 : eqN (tX f n E y) (ltx 12) = 0) : mflN f n E c mj x y = fitN mj c x 0 := by
  unfold mflN fitN
  rw [if_neg (by omega), if_neg (by omega), if_neg (show ¬ ¬ (0 : Nat) = 0 by decide)]
theorem mds_0 : mdsN f n E x d w = 0 ↔ (mthN (tX f n E d) = 0 ∨ 255 < w ∨ (¬ eqN (tX f n E x) (ltx 12) = 0 ∧ nresN (tX f n E d) = 0)) := by
  unfold mdsN
  split
  · omega
  · split <;> omega
theorem ap_9 : (aN (by2 f p) 8 = 0 → apN f n E p = argN (tX f n E (by2 f (p + 4))) + 1) ∧ (¬ aN (by2 f p) 8 = 0 → apN f n E p = argN (tX f n E (by2 f (p + 4))) + 0) := by
  have h1 := has_0 (by2 f p) 8
  unfold apN
  split <;> omega
theorem mh_24 (h : mnmN f n E c (by2 f (p + 2)) = 0) : mhS f n E c mj B k p = some (24, p + 2) := by
  unfold mhS
  rw [if_pos h]
theorem mh_23 (h : ¬ mnmN f n E c (by2 f (p + 2)) = 0) (h1 : mflN f n E c mj (by2 f p) (by2 f (p + 2)) = 0) : mhS f n E c mj B k p = some (23, p) := by
  unfold mhS
  rw [if_neg h, if_pos h1]
theorem mh_25 (h : ¬ mnmN f n E c (by2 f (p + 2)) = 0) (h1 : ¬ mflN f n E c mj (by2 f p) (by2 f (p + 2)) = 0) (h2 : mdsN f n E (by2 f (p + 2)) (by2 f (p + 4)) (apN f n E p) = 0) : mhS f n E c mj B k p = some (25, p + 4) := by
  unfold mhS
  rw [if_neg h, if_neg h1, if_pos h2]
theorem mh_26 (h : ¬ mnmN f n E c (by2 f (p + 2)) = 0) (h1 : ¬ mflN f n E c mj (by2 f p) (by2 f (p + 2)) = 0) (h2 : ¬ mdsN f n E (by2 f (p + 2)) (by2 f (p + 4)) (apN f n E p) = 0) (h3 : ¬ smeS f n E B (by2 f (p + 2)) (by2 f (p + 4)) k 0 = none) : mhS f n E c mj B k p = some (26, p) := by
  unfold mhS
  rw [if_neg h, if_neg h1, if_neg h2, if_neg h3]
theorem mh_n (h : ¬ mnmN f n E c (by2 f (p + 2)) = 0) (h1 : ¬ mflN f n E c mj (by2 f p) (by2 f (p + 2)) = 0) (h2 : ¬ mdsN f n E (by2 f (p + 2)) (by2 f (p + 4)) (apN f n E p) = 0) (h3 : smeS f n E B (by2 f (p + 2)) (by2 f (p + 4)) k 0 = none) : mhS f n E c mj B k p = none := by
  unfold mhS
  rw [if_neg h, if_neg h1, if_neg h2, if_pos h3]
theorem maS_h : ∀ {r p s h h' : Nat}, h ≤ 1 → maS f n E mj wa r p s h = .inr h' → h' ≤ 1 := by
  intro r
  induction r with
  | zero => intro p s h h' h1 h2; cases h2; exact h1
  | succ r ih =>
    intro p s h h' h1 h2
    unfold maS at h2
    split at h2
    · cases h2
    · split at h2
      · cases h2
      · split at h2
        · split at h2
          · cases h2
          · exact ih (by decide) h2
        · split at h2
          · cases h2
          · exact ih h1 h2
theorem CX.val {h x : Nat} {I : rI} {R : rR} (hc : CX h x I R) : ∃ v : Int32, R 37 x = some v ∧ ((h = 0 ∧ v < 0) ∨ (¬ h = 0 ∧ ¬ v < 0)) := by
  unfold CX at hc
  split at hc
  · rename_i h9
    exact ⟨-1, hc, Or.inl ⟨h9, by decide⟩⟩
  · rename_i h9
    obtain ⟨c, h1, h2⟩ := hc
    refine ⟨nI c, h2, Or.inr ⟨h9, fun h8 => ?_⟩⟩
    have h3 := (lt_nI (p := c) (n := 0) (by omega) (by decide)).mp h8
    omega
theorem cdu_0 : cduS f n E p k = if ¬ eqN (tX f n E (by2 f (p + 2))) (ltx 13) = 0 ∨ aN (by2 f p) 1280 = 0 then (if k = 1 then none else some (27, p)) else (if k = 0 then none else some (27, p)) := by
  have h1 := has_0 (by2 f p) 1280
  unfold cduS
  by_cases hz : ¬ eqN (tX f n E (by2 f (p + 2))) (ltx 13) = 0 ∨ hasN (by2 f p) 1280 = 0
  · rw [if_pos hz, if_pos (show ¬ eqN (tX f n E (by2 f (p + 2))) (ltx 13) = 0 ∨ aN (by2 f p) 1280 = 0 by omega)]
  · rw [if_neg hz, if_neg (show ¬ (¬ eqN (tX f n E (by2 f (p + 2))) (ltx 13) = 0 ∨ aN (by2 f p) 1280 = 0) by omega)]
end MMA

theorem uq0 {l : List Nat} : unq0 l = 0 ↔ ¬ (¬ unqN l = 0 ∧ angN l = 0) := by
  unfold unq0
  split <;> omega
theorem ic_unq {l : List Nat} : eqN l (ltx 12) = 0 ∨ unq0 l = 0 := by
  by_cases h : l = ltx 12
  · refine Or.inr ?_
    rw [h]
    decide +kernel
  · refine Or.inl ?_
    unfold eqN
    rw [if_neg h]
theorem rd_fitX {g : xe_G} {m0 : Nat} {q : Nat → Nat} {z : Nat × Nat} {I : rI} {R : rR} {M : mi_H} {mj x c i ib : Nat} (hR : RS g m0 q z I R M) (hi53 : I 53 = some (nI mj))  (hmj : mj < 65536) (hx : x < 65536) (hi : i = 0 ∨ i = 1) (hc : (ib = 0 ∧ aN c 512 = 0) ∨ (ib = 1 ∧ ¬ aN c 512 = 0)) : pt (mT g) 209 [.ref m0, .int (nI x), .int (nI i), .int (nI ib)] M (fun v M' => (v = some (.int (nI (fitN mj c x i))) ∧ M = M')) := by
  rcases hi with rfl | rfl
  · rcases hc with ⟨rfl, hc⟩ | ⟨rfl, hc⟩
    · exact rd_fit00 hR hi53 hmj hx hc
    · exact rd_fit01 hR hi53 hmj hx hc
  · rcases hc with ⟨rfl, hc⟩ | ⟨rfl, hc⟩
    · exact rd_fit10 hR hi53 hmj hx hc
    · exact rd_fit11 hR hi53 hmj hx hc
end
section
/-! the whole file as the reference checks it (my own text) -/
section WMA
variable {f : Nat → Int32} {n : Nat} {E : List (Nat × Nat)}
theorem whole_in {p1 pF pM pA : Nat} (h : s_whole f n = .inr (E, p1, pF, pM, pA)) : s_pool f n (by2 f 6) = .inr (p1, E) := by
  unfold s_whole at h
  split at h
  · cases h
  · cases hp : s_pool f n (by2 f 6) with
    | inl e => rw [hp] at h; cases h
    | inr y =>
      obtain ⟨a, b⟩ := y
      rw [hp] at h
      dsimp only at h
      cases hc : s_class f n a with
      | inl e => rw [hc] at h; cases h
      | inr pF' =>
        rw [hc] at h
        dsimp only at h
        cases hf : s_mbs f n pF' with
        | inl e => rw [hf] at h; cases h
        | inr pM' =>
          rw [hf] at h
          dsimp only at h
          cases hm : s_mbs f n pM' with
          | inl e => rw [hm] at h; cases h
          | inr pA' =>
            rw [hm] at h
            dsimp only at h
            cases he : s_end f n pA' with
            | some e => rw [he] at h; cases h
            | none =>
              rw [he] at h
              cases h
              rfl
/-- an entry lies well in the file -/
def ep1 (f : Nat → Int32) (n p : Nat) : Prop := p + 1 ≤ n ∧ (by1 f p = 15 → p + 4 ≤ n) ∧ (7 ≤ by1 f p → p + 3 ≤ n) ∧ (7 ≤ by1 f p ∧ ¬ (by1 f p = 15 ∨ by1 f p = 7 ∨ by1 f p = 8 ∨ by1 f p = 16 ∨ by1 f p = 19 ∨ by1 f p = 20) → p + 5 ≤ n) ∧ ¬ by1 f p = 0
theorem ent_ok {mj N k p : Nat} {y : Nat × ((List Nat) ⊕ (Option (Nat × Nat)))} (h : s_entry f n mj N k p = .inr y) : ep1 f n p := by
  unfold s_entry at h
  split at h
  · cases h
  · rename_i h0
    split at h
    · cases h
    · rename_i hT
      have h00 : ¬ by1 f p = 0 := fun e => hT (by rw [e]; unfold tgOk; omega)
      split at h
      · cases h
      · split at h
        · unfold ep1; omega
        · split at h
          · unfold ep1; omega
          · split at h
            · unfold ep1; omega
            · cases he : s_ix f n (by1 f p) (p + 1) with
              | inl e => rw [he] at h; cases h
              | inr z =>
                clear h
                unfold s_ix at he
                unfold ep1
                split at he
                · split at he
                  · cases he
                  · split at he
                    · cases he
                    · omega
                · split at he
                  · cases he
                  · split at he
                    · omega
                    · split at he
                      · cases he
                      · omega
theorem ents_ok {mj N : Nat} : ∀ {r k p p' : Nat} {E0 E : List (Nat × Nat)}, (∀ q ∈ E0, ep1 f n q.2) → s_ents f n mj N r k p E0 = .inr (p', E) → ∀ q ∈ E, ep1 f n q.2 := by
  intro r
  induction r with
  | zero => intro k p p' E0 E h0 h; cases h; exact h0
  | succ r ih =>
    intro k p p' E0 E h0 h
    unfold s_ents at h
    split at h
    · cases h; exact h0
    · cases he : s_entry f n mj N k p with
      | inl e => rw [he] at h; cases h
      | inr y =>
        obtain ⟨p2, x⟩ := y
        rw [he] at h
        refine ih ?_ h
        intro q hq
        rcases List.mem_append.mp hq with hq | hq
        · exact h0 q hq
        · have e : q = (k, p) := by simpa using hq
          rw [e]
          exact ent_ok he
theorem EP_of {mj p' : Nat} (h : s_pool f n mj = .inr (p', E)) : EP f n E ∧ 1 ≤ by2 f 8 := by
  unfold s_pool at h
  split at h
  · cases h
  · split at h
    · cases h
    · exact ⟨fun j p hp => ents_ok (fun q hq => by cases hq) h _ (lk_in hp), by omega⟩
theorem chkP_all {mj : Nat} : ∀ {r k : Nat}, chkP f n E mj r k = none → ∀ j, k ≤ j → j < k + r → ¬ lnkN f E j = 0 ∧ brkN f n E mj j = 0 := by
  intro r
  induction r with
  | zero => intro k h j h1 h2; omega
  | succ r ih =>
    intro k h j h1 h2
    unfold chkP at h
    split at h
    · cases h
    · split at h
      · by_cases e : j = k
        · rw [e]
          exact ⟨by assumption, by assumption⟩
        · exact ih h j (by omega) (by omega)
      · cases h
theorem CP_of {mj N : Nat} (h : chkP f n E mj (N - 1) 1 = none) (hE : ∀ q ∈ E, 1 ≤ q.1 ∧ q.1 < N) : CP f n E := by
  intro k hk
  have hkE : 1 ≤ k ∧ k < N := by
    unfold tg at hk
    cases hl : lk E k with
    | none => rw [hl] at hk; cases hk
    | some p => exact hE _ (lk_in hl)
  obtain ⟨h1, h2⟩ := chkP_all h k hkE.1 (by omega)
  have h3 : tg f E (fi f E k) = 1 := by
    unfold lnkN at h1
    rw [if_pos (Or.inl hk)] at h1
    split at h1
    · assumption
    · exact absurd rfl h1
  refine ⟨h3, ?_⟩
  unfold brkN at h2
  rw [if_pos hk] at h2
  split at h2
  · cases h2
  · rename_i h4
    cases ht : tX f n E (fi f E k) with
    | nil => rw [ht] at h4; exact absurd (by decide) h4
    | cons a l => exact Nat.succ_pos _
theorem atE_of {e : Nat} : ∀ {c p x : Nat}, p ≤ n → s_atts f n c p = .inr x → x ≤ e → s_atE f e c p = some x := by
  intro c
  induction c with
  | zero => intro p x hp h he; cases h; rfl
  | succ c ih =>
    intro p x hp h he
    unfold s_atts at h
    split at h
    · cases h
    · split at h
      · cases h
      · split at h
        · cases h
        · have h1 := s_atts_le (by omega) h
          unfold s_atE
          rw [if_neg (by omega), if_neg (by omega)]
          exact ih (by omega) h he
theorem atE_at {p e : Nat} (h : s_attributes f n p = .inr e) : p + 2 ≤ e ∧ e ≤ n ∧ s_atE f e (by2 f p) (p + 2) = some e := by
  have h1 := s_attributes_le2 h
  have h2 := s_atts_of h
  exact ⟨h1.1, h1.2, atE_of h2.1 h2.2 (Nat.le_refl _)⟩
/-- where a member that begins at p ends -/
def mE (f : Nat → Int32) (n p : Nat) : Nat := match s_attributes f n (p + 6) with
  | .inr e => e
  | .inl _ => 0
theorem mE_is {p e : Nat} (h : s_attributes f n (p + 6) = .inr e) : mE f n p = e := by
  unfold mE
  rw [h]
theorem mbs_all : ∀ {c p x : Nat}, s_mems f n c p = .inr x → (mbs f n c p).length = c ∧ (0 < c → (mbs f n c p).getD 0 0 = p) ∧ ∀ i, i < c → s_attributes f n ((mbs f n c p).getD i 0 + 6) = .inr (mE f n ((mbs f n c p).getD i 0)) ∧ (i + 1 < c → (mbs f n c p).getD (i + 1) 0 = mE f n ((mbs f n c p).getD i 0)) := by
  intro c
  induction c with
  | zero => intro p x h; exact ⟨rfl, fun h9 => by omega, fun i hi => by omega⟩
  | succ c ih =>
    intro p x h
    unfold s_mems at h
    split at h
    · cases h
    · split at h
      · cases h
      · split at h
        · cases h
        · cases ha : s_attributes f n (p + 6) with
          | inl e => rw [ha] at h; cases h
          | inr y =>
            rw [ha] at h
            obtain ⟨h1, h2, h3⟩ := ih h
            have e : mbs f n (c + 1) p = p :: mbs f n c y := by
              show p :: _ = _
              rw [ha]
            rw [e]
            refine ⟨by rw [List.length_cons, h1], fun _ => rfl, fun i hi => ?_⟩
            cases i with
            | zero =>
              refine ⟨?_, fun h9 => ?_⟩
              · show s_attributes f n (p + 6) = .inr (mE f n p)
                rw [mE_is ha]
                exact ha
              · show (mbs f n c y).getD 0 0 = mE f n p
                rw [mE_is ha]
                exact h2 (by omega)
            | succ i =>
              have := h3 i (by omega)
              exact ⟨this.1, fun h9 => this.2 (by omega)⟩
theorem MBS_of {p x : Nat} (h : s_mbs f n p = .inr x) : MBS f n (mbs f n (by2 f p) (p + 2)) p (fun i => mE f n ((mbs f n (by2 f p) (p + 2)).getD i 0)) := by
  unfold s_mbs at h
  split at h
  · cases h
  · obtain ⟨h1, h2, h3⟩ := mbs_all h
    refine ⟨h1, by omega, fun h9 => h2 (by omega), fun i hi => ?_⟩
    obtain ⟨h4, h5⟩ := h3 i (by omega)
    obtain ⟨h6, h7, h8⟩ := atE_at h4
    refine ⟨by dsimp only; omega, h7, h8, fun h9 => h5 (by omega)⟩
end WMA

section WMB
variable {f : Nat → Int32} {n : Nat} {I I' : rI} {R R' : rR}
theorem cc_none {E : List (Nat × Nat)} {h : Nat} (e : ccS f n E h = none) : hdS f n E h = none ∧ ifS f n E (h + 8) (by2 f (h + 6)) 0 = none := by
  unfold ccS at e
  split at e
  · cases e
  · exact ⟨by assumption, e⟩
theorem cc_some {E : List (Nat × Nat)} {h : Nat} {e9 : Nat × Nat} {o : Option (Nat × Nat)} (e : ccS f n E h = some e9) : (match hdS f n E h with
    | some e => some e
    | none => match ifS f n E (h + 8) (by2 f (h + 6)) 0 with
      | some e => some e
      | none => o) = some e9 := by
  unfold ccS at e
  split at e
  · rename_i h1
    rw [h1]
    exact e
  · rename_i h1
    rw [h1]
    dsimp only
    rw [e]
theorem clS_lt {E : List (Nat × Nat)} {x mj : Nat} : ∀ {c p s bc b : Nat}, bc < 65536 → clS f n E x mj c p s bc = .inr b → b < 65536 := by
  intro c
  induction c with
  | zero => intro p s bc b hb h; cases h; exact hb
  | succ c ih =>
    intro p s bc b hb h
    unfold clS at h
    split at h
    · cases h
    · split at h
      · cases h
      · split at h
        · cases h
        · cases h
        · refine ih ?_ h
          split
          · exact by2_lt _ _
          · exact hb
theorem clS_bc {E : List (Nat × Nat)} {x mj c p b : Nat} (h : clS f n E x mj c p 0 0 = .inr b) : b < 65536 := clS_lt (by decide) h
/-- n bytes of a row -/
def BX (a n : Nat) (f : Nat → Int32) (I : rI) (R : rR) : Prop := ∀ i, i < n → R a i = some (f i) ∧ vp_nar .byte (f i) = f i
theorem BX.mono {a : Nat} (h : BX a n f I R) (hI : ∀ k, k ∈ ([] : List Nat) → I' k = I k) (hR : ∀ k, k ∈ [a] → R' k = R k) : BX a n f I' R' := fun i hi => by
  rw [hR a List.mem_cons_self]
  exact h i hi
theorem BX.st {a i : Nat} {x : Int32} (h : BX a i f I R) (hR : R' = rset R a i (vp_nar .byte x)) (hx : vp_nar .byte (f i) = f i) (e : x = f i) : BX a (i + 1) f I' R' := fun j hj => by
  subst hR
  by_cases e9 : j = i
  · rw [e9, rset_at, e, hx]
    exact ⟨rfl, rfl⟩
  · rw [rset_el e9]
    exact h j (by omega)
theorem BX.le {a m : Nat} (h : BX a n f I R) (hm : m ≤ n) : BX a m f I R := fun i hi => h i (by omega)
/-- what is kept, if anything is -/
def KP (kn : Int32) (I : rI) (R : rR) : Prop := kn < 0 ∨ ∃ (n2 : Nat) (f2 : Nat → Int32), kn = nI n2 ∧ n2 ≤ 65540 ∧ BX 14 n2 f2 I R
theorem KP.mono {kn : Int32} (h : KP kn I R) (hI : ∀ k, k ∈ ([] : List Nat) → I' k = I k) (hR : ∀ k, k ∈ [14] → R' k = R k) : KP kn I' R' :=
  h.imp id (fun ⟨n2, f2, h1, h2, h3⟩ => ⟨n2, f2, h1, h2, h3.mono hI hR⟩)
theorem KP.ge {kn : Int32} (h : KP kn I R) (hk : ¬ kn < 0) : ∃ (n2 : Nat) (f2 : Nat → Int32), kn = nI n2 ∧ n2 ≤ 65540 ∧ BX 14 n2 f2 I R := h.resolve_left hk
theorem KP.of (hn : n ≤ 65540) (h : BX 14 n f I R) : KP (nI n) I R := Or.inr ⟨n, f, rfl, hn, h⟩
end WMB
end
section
/-! the bytes that come (my own text) -/
section BTA
def ush (x y : Int32) : Int32 := (x.toUInt32 >>> (y.toUInt32 &&& Int32.toUInt32 31)).toInt32
/-- a word's byte -/
def wB (x : Int32) (k : Nat) : Int32 := if k = 0 then (ush x 24).toInt8.toInt32 else if k = 1 then (ush x 16).toInt8.toInt32 else if k = 2 then (ush x 8).toInt8.toInt32 else x.toInt8.toInt32
theorem ush_0 (x : Int32) : ush x 0 = x := by
  unfold ush
  apply Int32.toBitVec_inj.mp
  simp
theorem nar_b (x : Int32) : vp_nar .byte x.toInt8.toInt32 = x.toInt8.toInt32 := by
  rw [vp_nar_byte]
  simp
theorem wB_nar (x : Int32) (k : Nat) : vp_nar .byte (wB x k) = wB x k := by
  unfold wB
  split
  · exact nar_b _
  · split
    · exact nar_b _
    · split
      · exact nar_b _
      · exact nar_b _
/-- four bytes behind the first c -/
def wr4 (C : Nat → Int32) (c : Nat) (x : Int32) : Nat → Int32 := fun i => if i < c then C i else wB x (i - c)
theorem wr4_lo {C : Nat → Int32} {c i : Nat} {x : Int32} (h : i < c) : wr4 C c x i = C i := by
  unfold wr4
  rw [if_pos h]
theorem wr4_at {C : Nat → Int32} {c k : Nat} {x : Int32} : wr4 C c x (c + k) = wB x k := by
  unfold wr4
  rw [if_neg (by omega), Nat.add_sub_cancel_left]
/-- five words -/
def fdC (C : Nat → Int32) (c : Nat) (x1 x2 x3 x4 x5 : Int32) : Nat → Int32 := wr4 (wr4 (wr4 (wr4 (wr4 C c x1) (c + 4) x2) (c + 8) x3) (c + 12) x4) (c + 16) x5
theorem BX.cg {a n : Nat} {f f' : Nat → Int32} {I I' : rI} {R : rR} (h : BX a n f I R) (e : ∀ i, i < n → f' i = f i) : BX a n f' I' R := fun i hi => by
  rw [e i hi]
  exact h i hi
theorem BX.w4 {c k : Nat} {C : Nat → Int32} {x y : Int32} {I I' : rI} {R R' : rR} (h : BX 15 (c + k) (wr4 C c x) I R) (hR : R' = rset R 15 (c + k) (vp_nar .byte y)) (e : y = wB x k) : BX 15 (c + k + 1) (wr4 C c x) I' R' :=
  BX.st h hR (by rw [wr4_at]; exact wB_nar _ _) (by rw [wr4_at]; exact e)
end BTA
set_option maxHeartbeats 1000000 in
theorem rd_four {g : xe_G} {m0 : Nat} {q : Nat → Nat} {z : Nat × Nat} {I : rI} {R : rR} {M : mi_H} {c : Nat} {C : Nat → Int32} {x : Int32} (hR : RS g m0 q z I R M) (hi19 : I 19 = some (nI c)) (hC : BX 15 c C I R) (hc : c + 4 ≤ 65540) : pt (mT g) 211 [.ref m0, .int x] M (fun v M' => (∃  (I' : rI) (R' : rR), v = none ∧ RS g m0 q z I' R' M' ∧ eqI [19] I I' ∧ eqR [15] R R' ∧ I' 19 = some (nI (c + 4)) ∧ BX 15 (c + 4) (wr4 C c x) I' R')) := by
  refine pt_in (b := mb_211 g) rfl (fun kf => ?_)
  show pl (mT g) kf (mb_211 g).2 (0, [(0, .ref m0), (1, .int x)], [], M) _
  have hEI : eqI [19] I I := eqI.rf
  have hER : eqR [15] R R := eqR.rf
  refine ps_st (S' := (2, [(0, .ref m0), (1, .int x)], [.int 24], M)) rfl rfl rfl ?_
  refine ps_st (S' := (3, [(0, .ref m0), (1, .int x), (2, .int 24)], [], M)) rfl rfl rfl ?_
  have hC_1 : BX 15 (c + 0) (wr4 C c x) I R := BX.cg hC (fun i hi => wr4_lo (by omega))
  refine ps_st (S' := (4, [(0, .ref m0), (1, .int x), (2, .int 24)], [.int 24], M)) rfl rfl rfl ?_
  refine ps_if (S1 := (33, [(0, .ref m0), (1, .int x), (2, .int 24)], [], M)) (S2 := (7, [(0, .ref m0), (1, .int x), (2, .int 24)], [], M)) rfl rfl rfl (fun c_4 => ?_) (fun c_4 => ?_)
  · exact absurd (of_decide_eq_true c_4) (by decide)
  refine ps_st (S' := (8, [(0, .ref m0), (1, .int x), (2, .int 24)], [.ref m0], M)) rfl rfl rfl ?_
  refine pr_ref (j := 15) (S' := (11, [(0, .ref m0), (1, .int x), (2, .int 24)], [.ref (q 15)], M)) rfl hR rfl rfl ?_
  refine ps_st (S' := (12, [(0, .ref m0), (1, .int x), (2, .int 24)], [.ref m0, .ref (q 15)], M)) rfl rfl rfl ?_
  refine ps_st (S' := (13, [(0, .ref m0), (1, .int x), (2, .int 24)], [.ref m0, .ref m0, .ref (q 15)], M)) rfl rfl rfl ?_
  refine pr_int (j := 19) (S' := (16, [(0, .ref m0), (1, .int x), (2, .int 24)], [.int (nI c), .ref m0, .ref (q 15)], M)) rfl hR rfl hi19 rfl ?_
  refine ps_st (S' := (17, [(0, .ref m0), (1, .int x), (2, .int 24)], [.int (nI c), .ref m0, .int (nI c), .ref (q 15)], M)) rfl rfl rfl ?_
  refine ps_st (S' := (18, [(0, .ref m0), (1, .int x), (2, .int 24)], [.int 1, .int (nI c), .ref m0, .int (nI c), .ref (q 15)], M)) rfl rfl rfl ?_
  refine ps_st (S' := (19, [(0, .ref m0), (1, .int x), (2, .int 24)], [.int ((nI c) + 1), .ref m0, .int (nI c), .ref (q 15)], M)) rfl rfl rfl ?_
  rw [nI_add1 (p := c) (k := 1) (x := 1) rfl (by omega)]
  show pl _ _ _ (_, [(0, .ref m0), (1, .int x), (2, .int 24)], [.int (nI (c + 1)), .ref m0, .int (nI c), .ref (q 15)], M) _
  refine pr_put (j := 19) rfl hR rfl (fun M2 I3 hR4 hi5 hI6 => ?_)
  have hC_7 := hC_1.mono (pIx hI6 (by decide)) (fun _ _ => rfl)
  have hEI8 := hEI.put hI6 (by decide)
  show pl _ _ _ (22, [(0, .ref m0), (1, .int x), (2, .int 24)], [.int (nI c), .ref (q 15)], M2) _
  refine ps_st (S' := (23, [(0, .ref m0), (1, .int x), (2, .int 24)], [.int x, .int (nI c), .ref (q 15)], M2)) rfl rfl rfl ?_
  refine ps_st (S' := (24, [(0, .ref m0), (1, .int x), (2, .int 24)], [.int 24, .int x, .int (nI c), .ref (q 15)], M2)) rfl rfl rfl ?_
  refine ps_st (S' := (25, [(0, .ref m0), (1, .int x), (2, .int 24)], [.int ((x.toUInt32 >>> ((24 : Int32).toUInt32 &&& Int32.toUInt32 31)).toInt32), .int (nI c), .ref (q 15)], M2)) rfl rfl rfl ?_
  refine ps_st (S' := (26, [(0, .ref m0), (1, .int x), (2, .int 24)], [.int (((x.toUInt32 >>> ((24 : Int32).toUInt32 &&& Int32.toUInt32 31)).toInt32).toInt8.toInt32), .int (nI c), .ref (q 15)], M2)) rfl rfl rfl ?_
  refine pr_st (a := 15) (j := c) rfl hR4 rfl (by omega) (fun M9 R10 i1_26 hR11 hS12 => ?_)
  have hER13 := hER.st hS12 (by decide)
  show pl _ _ _ (27, [(0, .ref m0), (1, .int x), (2, .int 24)], [], M9) _
  have hC_14 : BX 15 (c + 1) (wr4 C c x) I3 R10 := BX.w4 (k := 0) hC_1 hS12 (rfl)
  refine ps_st (S' := (30, [(2, .int (24 + (-8))), (0, .ref m0), (1, .int x)], [], M9)) rfl rfl rfl ?_
  refine ps_st (S' := (3, [(0, .ref m0), (1, .int x), (2, .int (24 + (-8)))], [], M9)) rfl rfl rfl ?_
  rw [show ((24 + (-8)) : Int32) = 16 by decide]
  show pl _ _ _ (3, [(0, .ref m0), (1, .int x), (2, .int 16)], [], M9) _
  refine ps_st (S' := (4, [(0, .ref m0), (1, .int x), (2, .int 16)], [.int 16], M9)) rfl rfl rfl ?_
  refine ps_if (S1 := (33, [(0, .ref m0), (1, .int x), (2, .int 16)], [], M9)) (S2 := (7, [(0, .ref m0), (1, .int x), (2, .int 16)], [], M9)) rfl rfl rfl (fun c_4 => ?_) (fun c_4 => ?_)
  · exact absurd (of_decide_eq_true c_4) (by decide)
  refine ps_st (S' := (8, [(0, .ref m0), (1, .int x), (2, .int 16)], [.ref m0], M9)) rfl rfl rfl ?_
  refine pr_ref (j := 15) (S' := (11, [(0, .ref m0), (1, .int x), (2, .int 16)], [.ref (q 15)], M9)) rfl hR11 rfl rfl ?_
  refine ps_st (S' := (12, [(0, .ref m0), (1, .int x), (2, .int 16)], [.ref m0, .ref (q 15)], M9)) rfl rfl rfl ?_
  refine ps_st (S' := (13, [(0, .ref m0), (1, .int x), (2, .int 16)], [.ref m0, .ref m0, .ref (q 15)], M9)) rfl rfl rfl ?_
  refine pr_int (j := 19) (S' := (16, [(0, .ref m0), (1, .int x), (2, .int 16)], [.int (nI (c + 1)), .ref m0, .ref (q 15)], M9)) rfl hR11 rfl hi5 rfl ?_
  refine ps_st (S' := (17, [(0, .ref m0), (1, .int x), (2, .int 16)], [.int (nI (c + 1)), .ref m0, .int (nI (c + 1)), .ref (q 15)], M9)) rfl rfl rfl ?_
  refine ps_st (S' := (18, [(0, .ref m0), (1, .int x), (2, .int 16)], [.int 1, .int (nI (c + 1)), .ref m0, .int (nI (c + 1)), .ref (q 15)], M9)) rfl rfl rfl ?_
  refine ps_st (S' := (19, [(0, .ref m0), (1, .int x), (2, .int 16)], [.int ((nI (c + 1)) + 1), .ref m0, .int (nI (c + 1)), .ref (q 15)], M9)) rfl rfl rfl ?_
  rw [nI_add1 (p := c + 1) (k := 1) (x := 1) rfl (by omega)]
  show pl _ _ _ (_, [(0, .ref m0), (1, .int x), (2, .int 16)], [.int (nI (c + 2)), .ref m0, .int (nI (c + 1)), .ref (q 15)], M9) _
  refine pr_put (j := 19) rfl hR11 rfl (fun M15 I16 hR17 hi18 hI19 => ?_)
  have hC_20 := hC_14.mono (pIx hI19 (by decide)) (fun _ _ => rfl)
  have hEI21 := hEI8.put hI19 (by decide)
  show pl _ _ _ (22, [(0, .ref m0), (1, .int x), (2, .int 16)], [.int (nI (c + 1)), .ref (q 15)], M15) _
  refine ps_st (S' := (23, [(0, .ref m0), (1, .int x), (2, .int 16)], [.int x, .int (nI (c + 1)), .ref (q 15)], M15)) rfl rfl rfl ?_
  refine ps_st (S' := (24, [(0, .ref m0), (1, .int x), (2, .int 16)], [.int 16, .int x, .int (nI (c + 1)), .ref (q 15)], M15)) rfl rfl rfl ?_
  refine ps_st (S' := (25, [(0, .ref m0), (1, .int x), (2, .int 16)], [.int ((x.toUInt32 >>> ((16 : Int32).toUInt32 &&& Int32.toUInt32 31)).toInt32), .int (nI (c + 1)), .ref (q 15)], M15)) rfl rfl rfl ?_
  refine ps_st (S' := (26, [(0, .ref m0), (1, .int x), (2, .int 16)], [.int (((x.toUInt32 >>> ((16 : Int32).toUInt32 &&& Int32.toUInt32 31)).toInt32).toInt8.toInt32), .int (nI (c + 1)), .ref (q 15)], M15)) rfl rfl rfl ?_
  refine pr_st (a := 15) (j := c + 1) rfl hR17 rfl (by omega) (fun M22 R23 i1_26 hR24 hS25 => ?_)
  have hER26 := hER13.st hS25 (by decide)
  show pl _ _ _ (27, [(0, .ref m0), (1, .int x), (2, .int 16)], [], M22) _
  have hC_27 : BX 15 (c + 2) (wr4 C c x) I16 R23 := BX.w4 (k := 1) hC_14 hS25 (rfl)
  refine ps_st (S' := (30, [(2, .int (16 + (-8))), (0, .ref m0), (1, .int x)], [], M22)) rfl rfl rfl ?_
  refine ps_st (S' := (3, [(0, .ref m0), (1, .int x), (2, .int (16 + (-8)))], [], M22)) rfl rfl rfl ?_
  rw [show ((16 + (-8)) : Int32) = 8 by decide]
  show pl _ _ _ (3, [(0, .ref m0), (1, .int x), (2, .int 8)], [], M22) _
  refine ps_st (S' := (4, [(0, .ref m0), (1, .int x), (2, .int 8)], [.int 8], M22)) rfl rfl rfl ?_
  refine ps_if (S1 := (33, [(0, .ref m0), (1, .int x), (2, .int 8)], [], M22)) (S2 := (7, [(0, .ref m0), (1, .int x), (2, .int 8)], [], M22)) rfl rfl rfl (fun c_4 => ?_) (fun c_4 => ?_)
  · exact absurd (of_decide_eq_true c_4) (by decide)
  refine ps_st (S' := (8, [(0, .ref m0), (1, .int x), (2, .int 8)], [.ref m0], M22)) rfl rfl rfl ?_
  refine pr_ref (j := 15) (S' := (11, [(0, .ref m0), (1, .int x), (2, .int 8)], [.ref (q 15)], M22)) rfl hR24 rfl rfl ?_
  refine ps_st (S' := (12, [(0, .ref m0), (1, .int x), (2, .int 8)], [.ref m0, .ref (q 15)], M22)) rfl rfl rfl ?_
  refine ps_st (S' := (13, [(0, .ref m0), (1, .int x), (2, .int 8)], [.ref m0, .ref m0, .ref (q 15)], M22)) rfl rfl rfl ?_
  refine pr_int (j := 19) (S' := (16, [(0, .ref m0), (1, .int x), (2, .int 8)], [.int (nI (c + 2)), .ref m0, .ref (q 15)], M22)) rfl hR24 rfl hi18 rfl ?_
  refine ps_st (S' := (17, [(0, .ref m0), (1, .int x), (2, .int 8)], [.int (nI (c + 2)), .ref m0, .int (nI (c + 2)), .ref (q 15)], M22)) rfl rfl rfl ?_
  refine ps_st (S' := (18, [(0, .ref m0), (1, .int x), (2, .int 8)], [.int 1, .int (nI (c + 2)), .ref m0, .int (nI (c + 2)), .ref (q 15)], M22)) rfl rfl rfl ?_
  refine ps_st (S' := (19, [(0, .ref m0), (1, .int x), (2, .int 8)], [.int ((nI (c + 2)) + 1), .ref m0, .int (nI (c + 2)), .ref (q 15)], M22)) rfl rfl rfl ?_
  rw [nI_add1 (p := c + 2) (k := 1) (x := 1) rfl (by omega)]
  show pl _ _ _ (_, [(0, .ref m0), (1, .int x), (2, .int 8)], [.int (nI (c + 3)), .ref m0, .int (nI (c + 2)), .ref (q 15)], M22) _
  refine pr_put (j := 19) rfl hR24 rfl (fun M28 I29 hR30 hi31 hI32 => ?_)
  have hC_33 := hC_27.mono (pIx hI32 (by decide)) (fun _ _ => rfl)
  have hEI34 := hEI21.put hI32 (by decide)
  show pl _ _ _ (22, [(0, .ref m0), (1, .int x), (2, .int 8)], [.int (nI (c + 2)), .ref (q 15)], M28) _
  refine ps_st (S' := (23, [(0, .ref m0), (1, .int x), (2, .int 8)], [.int x, .int (nI (c + 2)), .ref (q 15)], M28)) rfl rfl rfl ?_
  refine ps_st (S' := (24, [(0, .ref m0), (1, .int x), (2, .int 8)], [.int 8, .int x, .int (nI (c + 2)), .ref (q 15)], M28)) rfl rfl rfl ?_
  refine ps_st (S' := (25, [(0, .ref m0), (1, .int x), (2, .int 8)], [.int ((x.toUInt32 >>> ((8 : Int32).toUInt32 &&& Int32.toUInt32 31)).toInt32), .int (nI (c + 2)), .ref (q 15)], M28)) rfl rfl rfl ?_
  refine ps_st (S' := (26, [(0, .ref m0), (1, .int x), (2, .int 8)], [.int (((x.toUInt32 >>> ((8 : Int32).toUInt32 &&& Int32.toUInt32 31)).toInt32).toInt8.toInt32), .int (nI (c + 2)), .ref (q 15)], M28)) rfl rfl rfl ?_
  refine pr_st (a := 15) (j := c + 2) rfl hR30 rfl (by omega) (fun M35 R36 i1_26 hR37 hS38 => ?_)
  have hER39 := hER26.st hS38 (by decide)
  show pl _ _ _ (27, [(0, .ref m0), (1, .int x), (2, .int 8)], [], M35) _
  have hC_40 : BX 15 (c + 3) (wr4 C c x) I29 R36 := BX.w4 (k := 2) hC_27 hS38 (rfl)
  refine ps_st (S' := (30, [(2, .int (8 + (-8))), (0, .ref m0), (1, .int x)], [], M35)) rfl rfl rfl ?_
  refine ps_st (S' := (3, [(0, .ref m0), (1, .int x), (2, .int (8 + (-8)))], [], M35)) rfl rfl rfl ?_
  rw [show ((8 + (-8)) : Int32) = 0 by decide]
  show pl _ _ _ (3, [(0, .ref m0), (1, .int x), (2, .int 0)], [], M35) _
  refine ps_st (S' := (4, [(0, .ref m0), (1, .int x), (2, .int 0)], [.int 0], M35)) rfl rfl rfl ?_
  refine ps_if (S1 := (33, [(0, .ref m0), (1, .int x), (2, .int 0)], [], M35)) (S2 := (7, [(0, .ref m0), (1, .int x), (2, .int 0)], [], M35)) rfl rfl rfl (fun c_4 => ?_) (fun c_4 => ?_)
  · exact absurd (of_decide_eq_true c_4) (by decide)
  refine ps_st (S' := (8, [(0, .ref m0), (1, .int x), (2, .int 0)], [.ref m0], M35)) rfl rfl rfl ?_
  refine pr_ref (j := 15) (S' := (11, [(0, .ref m0), (1, .int x), (2, .int 0)], [.ref (q 15)], M35)) rfl hR37 rfl rfl ?_
  refine ps_st (S' := (12, [(0, .ref m0), (1, .int x), (2, .int 0)], [.ref m0, .ref (q 15)], M35)) rfl rfl rfl ?_
  refine ps_st (S' := (13, [(0, .ref m0), (1, .int x), (2, .int 0)], [.ref m0, .ref m0, .ref (q 15)], M35)) rfl rfl rfl ?_
  refine pr_int (j := 19) (S' := (16, [(0, .ref m0), (1, .int x), (2, .int 0)], [.int (nI (c + 3)), .ref m0, .ref (q 15)], M35)) rfl hR37 rfl hi31 rfl ?_
  refine ps_st (S' := (17, [(0, .ref m0), (1, .int x), (2, .int 0)], [.int (nI (c + 3)), .ref m0, .int (nI (c + 3)), .ref (q 15)], M35)) rfl rfl rfl ?_
  refine ps_st (S' := (18, [(0, .ref m0), (1, .int x), (2, .int 0)], [.int 1, .int (nI (c + 3)), .ref m0, .int (nI (c + 3)), .ref (q 15)], M35)) rfl rfl rfl ?_
  refine ps_st (S' := (19, [(0, .ref m0), (1, .int x), (2, .int 0)], [.int ((nI (c + 3)) + 1), .ref m0, .int (nI (c + 3)), .ref (q 15)], M35)) rfl rfl rfl ?_
  rw [nI_add1 (p := c + 3) (k := 1) (x := 1) rfl (by omega)]
  show pl _ _ _ (_, [(0, .ref m0), (1, .int x), (2, .int 0)], [.int (nI (c + 4)), .ref m0, .int (nI (c + 3)), .ref (q 15)], M35) _
  refine pr_put (j := 19) rfl hR37 rfl (fun M41 I42 hR43 hi44 hI45 => ?_)
  have hC_46 := hC_40.mono (pIx hI45 (by decide)) (fun _ _ => rfl)
  have hEI47 := hEI34.put hI45 (by decide)
  show pl _ _ _ (22, [(0, .ref m0), (1, .int x), (2, .int 0)], [.int (nI (c + 3)), .ref (q 15)], M41) _
  refine ps_st (S' := (23, [(0, .ref m0), (1, .int x), (2, .int 0)], [.int x, .int (nI (c + 3)), .ref (q 15)], M41)) rfl rfl rfl ?_
  refine ps_st (S' := (24, [(0, .ref m0), (1, .int x), (2, .int 0)], [.int 0, .int x, .int (nI (c + 3)), .ref (q 15)], M41)) rfl rfl rfl ?_
  refine ps_st (S' := (25, [(0, .ref m0), (1, .int x), (2, .int 0)], [.int ((x.toUInt32 >>> ((0 : Int32).toUInt32 &&& Int32.toUInt32 31)).toInt32), .int (nI (c + 3)), .ref (q 15)], M41)) rfl rfl rfl ?_
  refine ps_st (S' := (26, [(0, .ref m0), (1, .int x), (2, .int 0)], [.int (((x.toUInt32 >>> ((0 : Int32).toUInt32 &&& Int32.toUInt32 31)).toInt32).toInt8.toInt32), .int (nI (c + 3)), .ref (q 15)], M41)) rfl rfl rfl ?_
  refine pr_st (a := 15) (j := c + 3) rfl hR43 rfl (by omega) (fun M48 R49 i1_26 hR50 hS51 => ?_)
  have hER52 := hER39.st hS51 (by decide)
  show pl _ _ _ (27, [(0, .ref m0), (1, .int x), (2, .int 0)], [], M48) _
  have hC_53 : BX 15 (c + 4) (wr4 C c x) I42 R49 := BX.w4 (k := 3) hC_40 hS51 (by show (ush x 0).toInt8.toInt32 = wB x 3; rw [ush_0]; rfl)
  refine ps_st (S' := (30, [(2, .int (0 + (-8))), (0, .ref m0), (1, .int x)], [], M48)) rfl rfl rfl ?_
  refine ps_st (S' := (3, [(0, .ref m0), (1, .int x), (2, .int (0 + (-8)))], [], M48)) rfl rfl rfl ?_
  rw [show ((0 + (-8)) : Int32) = (-8) by decide]
  show pl _ _ _ (3, [(0, .ref m0), (1, .int x), (2, .int (-8))], [], M48) _
  refine ps_st (S' := (4, [(0, .ref m0), (1, .int x), (2, .int (-8))], [.int (-8)], M48)) rfl rfl rfl ?_
  refine ps_if (S1 := (33, [(0, .ref m0), (1, .int x), (2, .int (-8))], [], M48)) (S2 := (7, [(0, .ref m0), (1, .int x), (2, .int (-8))], [], M48)) rfl rfl rfl (fun c_4 => ?_) (fun c_4 => ?_)
  rotate_left
  · exact absurd (by decide) (of_decide_eq_false c_4)
  exact ps_ret rfl rfl (⟨I42, R49, rfl, hR50, hEI47, hER52, hi44, hC_53⟩)
set_option maxHeartbeats 1000000 in
theorem rd_feed {g : xe_G} {m0 : Nat} {q : Nat → Nat} {z : Nat × Nat} {I : rI} {R : rR} {M : mi_H} {c : Nat} {C : Nat → Int32} {x1 x2 x3 x4 x5 : Int32} (hR : RS g m0 q z I R M) (hi19 : I 19 = some (nI c)) (hC : BX 15 c C I R) (hc : c + 20 ≤ 65540) : pt (mT g) 205 [.ref m0, .int x1, .int x2, .int x3, .int x4, .int x5] M (fun v M' => (∃  (I' : rI) (R' : rR), v = some (.int (nI (c + 20))) ∧ RS g m0 q z I' R' M' ∧ eqI [0, 19] I I' ∧ eqR [15] R R' ∧ I' 19 = some (nI (c + 20)) ∧ BX 15 (c + 20) (fdC C c x1 x2 x3 x4 x5) I' R')) := by
  refine pt_in (b := mb_205 g) rfl (fun kf => ?_)
  show pl (mT g) kf (mb_205 g).2 (0, [(0, .ref m0), (1, .int x1), (2, .int x2), (3, .int x3), (4, .int x4), (5, .int x5)], [], M) _
  have hEI : eqI [0, 19] I I := eqI.rf
  have hER : eqR [15] R R := eqR.rf
  refine ps_st (S' := (1, [(0, .ref m0), (1, .int x1), (2, .int x2), (3, .int x3), (4, .int x4), (5, .int x5)], [.ref m0], M)) rfl rfl rfl ?_
  refine ps_st (S' := (2, [(0, .ref m0), (1, .int x1), (2, .int x2), (3, .int x3), (4, .int x4), (5, .int x5)], [.int 0, .ref m0], M)) rfl rfl rfl ?_
  refine pr_put (j := 0) rfl hR rfl (fun M1 I2 hR3 hi4 hI5 => ?_)
  have hi6 := (hI5 19 (by decide)).trans hi19
  have hC_7 := hC.mono (pIx hI5 (by decide)) (fun _ _ => rfl)
  have hEI8 := hEI.put hI5 (by decide)
  show pl _ _ _ (5, [(0, .ref m0), (1, .int x1), (2, .int x2), (3, .int x3), (4, .int x4), (5, .int x5)], [], M1) _
  refine ps_st (S' := (6, [(0, .ref m0), (1, .int x1), (2, .int x2), (3, .int x3), (4, .int x4), (5, .int x5)], [.ref m0], M1)) rfl rfl rfl ?_
  refine pr_int (j := 19) (S' := (9, [(0, .ref m0), (1, .int x1), (2, .int x2), (3, .int x3), (4, .int x4), (5, .int x5)], [.int (nI c)], M1)) rfl hR3 rfl hi6 rfl ?_
  refine ps_st (S' := (11, [(0, .ref m0), (1, .int x1), (2, .int x2), (3, .int x3), (4, .int x4), (5, .int x5)], [.int 20, .int (nI c)], M1)) rfl rfl rfl ?_
  refine ps_st (S' := (12, [(0, .ref m0), (1, .int x1), (2, .int x2), (3, .int x3), (4, .int x4), (5, .int x5)], [.int ((nI c) + 20)], M1)) rfl rfl rfl ?_
  rw [nI_add1 (p := c) (k := 20) (x := 20) rfl (by omega)]
  show pl _ _ _ (_, [(0, .ref m0), (1, .int x1), (2, .int x2), (3, .int x3), (4, .int x4), (5, .int x5)], [.int (nI (c + 20))], M1) _
  refine ps_st (S' := (14, [(0, .ref m0), (1, .int x1), (2, .int x2), (3, .int x3), (4, .int x4), (5, .int x5)], [.int 65540, .int (nI (c + 20))], M1)) rfl rfl rfl ?_
  refine ps_if2 (S1 := (24, [(0, .ref m0), (1, .int x1), (2, .int x2), (3, .int x3), (4, .int x4), (5, .int x5)], [], M1)) (S2 := (17, [(0, .ref m0), (1, .int x1), (2, .int x2), (3, .int x3), (4, .int x4), (5, .int x5)], [], M1)) rfl rfl rfl (fun c_14 => ?_) (fun c_14 => ?_)
  · have c_14 : (nI (c + 20)) ≤ 65540 := of_decide_eq_true c_14
    have n_14 : c + 20 ≤ 65540 := (le_nI (p := c + 20) (n := 65540) (by omega) (by decide)).mp c_14
    refine ps_st (S' := (25, [(0, .ref m0), (1, .int x1), (2, .int x2), (3, .int x3), (4, .int x4), (5, .int x5)], [.ref m0], M1)) rfl rfl rfl ?_
    refine ps_st (S' := (26, [(0, .ref m0), (1, .int x1), (2, .int x2), (3, .int x3), (4, .int x4), (5, .int x5)], [.int x1, .ref m0], M1)) rfl rfl rfl ?_
    refine pl_call (a := [.ref m0, .int x1]) (rest := []) rfl rfl rfl (rd_four (c := c) (C := C) (x := x1) hR3 hi6 hC_7 (by omega)) (fun v9 M10 q11 => ?_)
    obtain ⟨I12, R13, rfl, hR14, hI15, hX16, hi17, hC_18⟩ := q11
    have hi20 := (hI15 0 (by decide)).trans hi4
    have hEI21 := hEI8.tr hI15 (by decide)
    have hER22 := hER.tr hX16 (by decide)
    show pl _ _ _ (29, [(0, .ref m0), (1, .int x1), (2, .int x2), (3, .int x3), (4, .int x4), (5, .int x5)], [], M10) _
    refine ps_st (S' := (30, [(0, .ref m0), (1, .int x1), (2, .int x2), (3, .int x3), (4, .int x4), (5, .int x5)], [.ref m0], M10)) rfl rfl rfl ?_
    refine ps_st (S' := (31, [(0, .ref m0), (1, .int x1), (2, .int x2), (3, .int x3), (4, .int x4), (5, .int x5)], [.int x2, .ref m0], M10)) rfl rfl rfl ?_
    refine pl_call (a := [.ref m0, .int x2]) (rest := []) rfl rfl rfl (rd_four (c := (c + 4)) (C := (wr4 C c x1)) (x := x2) hR14 hi17 hC_18 (by omega)) (fun v23 M24 q25 => ?_)
    obtain ⟨I26, R27, rfl, hR28, hI29, hX30, hi31, hC_32⟩ := q25
    have hi33 := (hI29 0 (by decide)).trans hi20
    have hEI34 := hEI21.tr hI29 (by decide)
    have hER35 := hER22.tr hX30 (by decide)
    show pl _ _ _ (34, [(0, .ref m0), (1, .int x1), (2, .int x2), (3, .int x3), (4, .int x4), (5, .int x5)], [], M24) _
    refine ps_st (S' := (35, [(0, .ref m0), (1, .int x1), (2, .int x2), (3, .int x3), (4, .int x4), (5, .int x5)], [.ref m0], M24)) rfl rfl rfl ?_
    refine ps_st (S' := (36, [(0, .ref m0), (1, .int x1), (2, .int x2), (3, .int x3), (4, .int x4), (5, .int x5)], [.int x3, .ref m0], M24)) rfl rfl rfl ?_
    refine pl_call (a := [.ref m0, .int x3]) (rest := []) rfl rfl rfl (rd_four (c := (c + 8)) (C := (wr4 (wr4 C c x1) (c + 4) x2)) (x := x3) hR28 hi31 hC_32 (by omega)) (fun v36 M37 q38 => ?_)
    obtain ⟨I39, R40, rfl, hR41, hI42, hX43, hi44, hC_45⟩ := q38
    have hi46 := (hI42 0 (by decide)).trans hi33
    have hEI47 := hEI34.tr hI42 (by decide)
    have hER48 := hER35.tr hX43 (by decide)
    show pl _ _ _ (39, [(0, .ref m0), (1, .int x1), (2, .int x2), (3, .int x3), (4, .int x4), (5, .int x5)], [], M37) _
    refine ps_st (S' := (40, [(0, .ref m0), (1, .int x1), (2, .int x2), (3, .int x3), (4, .int x4), (5, .int x5)], [.ref m0], M37)) rfl rfl rfl ?_
    refine ps_st (S' := (42, [(0, .ref m0), (1, .int x1), (2, .int x2), (3, .int x3), (4, .int x4), (5, .int x5)], [.int x4, .ref m0], M37)) rfl rfl rfl ?_
    refine pl_call (a := [.ref m0, .int x4]) (rest := []) rfl rfl rfl (rd_four (c := (c + 12)) (C := (wr4 (wr4 (wr4 C c x1) (c + 4) x2) (c + 8) x3)) (x := x4) hR41 hi44 hC_45 (by omega)) (fun v49 M50 q51 => ?_)
    obtain ⟨I52, R53, rfl, hR54, hI55, hX56, hi57, hC_58⟩ := q51
    have hi59 := (hI55 0 (by decide)).trans hi46
    have hEI60 := hEI47.tr hI55 (by decide)
    have hER61 := hER48.tr hX56 (by decide)
    show pl _ _ _ (45, [(0, .ref m0), (1, .int x1), (2, .int x2), (3, .int x3), (4, .int x4), (5, .int x5)], [], M50) _
    refine ps_st (S' := (46, [(0, .ref m0), (1, .int x1), (2, .int x2), (3, .int x3), (4, .int x4), (5, .int x5)], [.ref m0], M50)) rfl rfl rfl ?_
    refine ps_st (S' := (48, [(0, .ref m0), (1, .int x1), (2, .int x2), (3, .int x3), (4, .int x4), (5, .int x5)], [.int x5, .ref m0], M50)) rfl rfl rfl ?_
    refine pl_call (a := [.ref m0, .int x5]) (rest := []) rfl rfl rfl (rd_four (c := (c + 16)) (C := (wr4 (wr4 (wr4 (wr4 C c x1) (c + 4) x2) (c + 8) x3) (c + 12) x4)) (x := x5) hR54 hi57 hC_58 (by omega)) (fun v62 M63 q64 => ?_)
    obtain ⟨I65, R66, rfl, hR67, hI68, hX69, hi70, hC_71⟩ := q64
    have hi72 := (hI68 0 (by decide)).trans hi59
    have hEI73 := hEI60.tr hI68 (by decide)
    have hER74 := hER61.tr hX69 (by decide)
    show pl _ _ _ (51, [(0, .ref m0), (1, .int x1), (2, .int x2), (3, .int x3), (4, .int x4), (5, .int x5)], [], M63) _
    refine ps_st (S' := (52, [(0, .ref m0), (1, .int x1), (2, .int x2), (3, .int x3), (4, .int x4), (5, .int x5)], [.ref m0], M63)) rfl rfl rfl ?_
    refine pr_int (j := 19) (S' := (55, [(0, .ref m0), (1, .int x1), (2, .int x2), (3, .int x3), (4, .int x4), (5, .int x5)], [.int (nI (c + 20))], M63)) rfl hR67 rfl hi70 rfl ?_
    exact ps_reti rfl (⟨I65, R66, rfl, hR67, hEI73, hER74, hi70, hC_71⟩)
  · have c_14 : ¬ ((nI (c + 20)) ≤ 65540) := of_decide_eq_false c_14
    have n_14 : ¬ (c + 20 ≤ 65540) := fun h9 => c_14 ((le_nI (p := c + 20) (n := 65540) (by omega) (by decide)).mpr h9)
    refine ps_st (S' := (18, [(0, .ref m0), (1, .int x1), (2, .int x2), (3, .int x3), (4, .int x4), (5, .int x5)], [.ref m0], M1)) rfl rfl rfl ?_
    refine ps_st (S' := (19, [(0, .ref m0), (1, .int x1), (2, .int x2), (3, .int x3), (4, .int x4), (5, .int x5)], [.int 1, .ref m0], M1)) rfl rfl rfl ?_
    refine pr_put (j := 0) rfl hR3 rfl (fun M75 I76 hR77 hi78 hI79 => ?_)
    have hi80 := (hI79 19 (by decide)).trans hi6
    have hC_81 := hC_7.mono (pIx hI79 (by decide)) (fun _ _ => rfl)
    have hEI82 := hEI8.put hI79 (by decide)
    show pl _ _ _ (22, [(0, .ref m0), (1, .int x1), (2, .int x2), (3, .int x3), (4, .int x4), (5, .int x5)], [], M75) _
    refine ps_st (S' := (23, [(0, .ref m0), (1, .int x1), (2, .int x2), (3, .int x3), (4, .int x4), (5, .int x5)], [.int 0], M75)) rfl rfl rfl ?_
    exact ps_ret rfl rfl (absurd hc (by omega))
set_option maxHeartbeats 1000000 in
theorem rd_bad {g : xe_G} {m0 : Nat} {q : Nat → Nat} {z : Nat × Nat} {I : rI} {R : rR} {M : mi_H}  (hR : RS g m0 q z I R M)    : pt (mT g) 182 [.ref m0] M (fun v M' => (∃  (I' : rI) (R' : rR), v = some (.int 0) ∧ RS g m0 q z I' R' M' ∧ eqI [0] I I' ∧ eqR [] R R' ∧ I' 0 = some 1)) := by
  refine pt_in (b := mb_182 g) rfl (fun kf => ?_)
  show pl (mT g) kf (mb_182 g).2 (0, [(0, .ref m0)], [], M) _
  have hEI : eqI [0] I I := eqI.rf
  have hER : eqR [] R R := eqR.rf
  refine ps_st (S' := (1, [(0, .ref m0)], [.ref m0], M)) rfl rfl rfl ?_
  refine ps_st (S' := (2, [(0, .ref m0)], [.int 1, .ref m0], M)) rfl rfl rfl ?_
  refine pr_put (j := 0) rfl hR rfl (fun M1 I2 hR3 hi4 hI5 => ?_)
  have hEI6 := hEI.put hI5 (by decide)
  show pl _ _ _ (5, [(0, .ref m0)], [], M1) _
  refine ps_st (S' := (6, [(0, .ref m0)], [.int 0], M1)) rfl rfl rfl ?_
  exact ps_ret rfl rfl (⟨I2, R, rfl, hR3, hEI6, hER, hi4⟩)
set_option maxHeartbeats 1000000 in
theorem rd_endok {g : xe_G} {m0 : Nat} {q : Nat → Nat} {z : Nat × Nat} {I : rI} {R : rR} {M : mi_H} {c k : Nat} {C : Nat → Int32} (hR : RS g m0 q z I R M) (hi19 : I 19 = some (nI c)) (hC : BX 15 c C I R) (hc : c ≤ 65540) (hk : k ≤ c) : pt (mT g) 202 [.ref m0, .int (nI k)] M (fun v M' => (∃  (I' : rI) (R' : rR), v = some (.int (nI k)) ∧ RS g m0 q z I' R' M' ∧ eqI [0, 17, 19] I I' ∧ eqR [13] R R' ∧ I' 17 = some (nI k) ∧ I' 19 = some (nI 0) ∧ BX 13 k C I' R')) := by
  refine pt_in (b := mb_202 g) rfl (fun kf => ?_)
  show pl (mT g) kf (mb_202 g).2 (0, [(0, .ref m0), (1, .int (nI k))], [], M) _
  have hEI : eqI [0, 17, 19] I I := eqI.rf
  have hER : eqR [13] R R := eqR.rf
  have LL : ∀ (kf : Nat), (∀ (i : Nat) (M1 : mi_H) (I1 : rI) (R1 : rR), (RS g m0 q z I1 R1 M1) → (eqI [0, 17, 19] I I1) → (eqR [13] R R1) → (BX 15 c C I1 R1) → (BX 13 i C I1 R1) → (i ≤ k) →  pl (mT g) kf (mb_202 g).2 (24, [(0, .ref m0), (1, .int (nI k)), (2, .int (nI i))], [], M1) (fun v M' => (∃  (I' : rI) (R' : rR), v = some (.int (nI k)) ∧ RS g m0 q z I' R' M' ∧ eqI [0, 17, 19] I I' ∧ eqR [13] R R' ∧ I' 17 = some (nI k) ∧ I' 19 = some (nI 0) ∧ BX 13 k C I' R'))) := by
    intro kf
    induction kf with
    | zero => exact (by intros; exact pl_0)
    | succ kf ih =>
      intro i M1 I1 R1 hR1 hEI1 hER1 hC1 hB1 hi
      refine ps_st1 (S' := (25, [(0, .ref m0), (1, .int (nI k)), (2, .int (nI i))], [.int (nI i)], M1)) rfl rfl rfl ?_
      refine ps_st (S' := (26, [(0, .ref m0), (1, .int (nI k)), (2, .int (nI i))], [.int (nI k), .int (nI i)], M1)) rfl rfl rfl ?_
      refine ps_if2 (S1 := (47, [(0, .ref m0), (1, .int (nI k)), (2, .int (nI i))], [], M1)) (S2 := (29, [(0, .ref m0), (1, .int (nI k)), (2, .int (nI i))], [], M1)) rfl rfl rfl (fun c_26 => ?_) (fun c_26 => ?_)
      · have c_26 : (nI k) ≤ (nI i) := of_decide_eq_true c_26
        have n_26 : k ≤ i := (le_nI (p := k) (n := i) (by omega) (by omega)).mp c_26
        refine ps_st (S' := (48, [(0, .ref m0), (1, .int (nI k)), (2, .int (nI i))], [.ref m0], M1)) rfl rfl rfl ?_
        refine ps_st (S' := (49, [(0, .ref m0), (1, .int (nI k)), (2, .int (nI i))], [.int (nI k), .ref m0], M1)) rfl rfl rfl ?_
        refine pr_put (j := 17) rfl hR1 rfl (fun M1 I2 hR3 hi4 hI5 => ?_)
        have hC_6 := hC1.mono (pIx hI5 (by decide)) (fun _ _ => rfl)
        have hB_7 := hB1.mono (pIx hI5 (by decide)) (fun _ _ => rfl)
        have hEI8 := hEI1.put hI5 (by decide)
        show pl _ _ _ (52, [(0, .ref m0), (1, .int (nI k)), (2, .int (nI i))], [], M1) _
        refine ps_st (S' := (53, [(0, .ref m0), (1, .int (nI k)), (2, .int (nI i))], [.ref m0], M1)) rfl rfl rfl ?_
        refine ps_st (S' := (54, [(0, .ref m0), (1, .int (nI k)), (2, .int (nI i))], [.int 0, .ref m0], M1)) rfl rfl rfl ?_
        refine pr_put (j := 19) rfl hR3 rfl (fun M9 I10 hR11 hi12 hI13 => ?_)
        have hi14 := (hI13 17 (by decide)).trans hi4
        have hC_15 := hC_6.mono (pIx hI13 (by decide)) (fun _ _ => rfl)
        have hB_16 := hB_7.mono (pIx hI13 (by decide)) (fun _ _ => rfl)
        have hEI17 := hEI8.put hI13 (by decide)
        show pl _ _ _ (57, [(0, .ref m0), (1, .int (nI k)), (2, .int (nI i))], [], M9) _
        refine ps_st (S' := (58, [(0, .ref m0), (1, .int (nI k)), (2, .int (nI i))], [.int (nI k)], M9)) rfl rfl rfl ?_
        exact ps_reti rfl (⟨I10, R1, rfl, hR11, hEI17, hER1, hi14, hi12, BX.le hB_16 (by omega)⟩)
      · have c_26 : ¬ ((nI k) ≤ (nI i)) := of_decide_eq_false c_26
        have n_26 : ¬ (k ≤ i) := fun h9 => c_26 ((le_nI (p := k) (n := i) (by omega) (by omega)).mpr h9)
        refine ps_st (S' := (30, [(0, .ref m0), (1, .int (nI k)), (2, .int (nI i))], [.ref m0], M1)) rfl rfl rfl ?_
        refine pr_ref (j := 13) (S' := (33, [(0, .ref m0), (1, .int (nI k)), (2, .int (nI i))], [.ref (q 13)], M1)) rfl hR1 rfl rfl ?_
        refine ps_st (S' := (34, [(0, .ref m0), (1, .int (nI k)), (2, .int (nI i))], [.int (nI i), .ref (q 13)], M1)) rfl rfl rfl ?_
        refine ps_st (S' := (35, [(0, .ref m0), (1, .int (nI k)), (2, .int (nI i))], [.ref m0, .int (nI i), .ref (q 13)], M1)) rfl rfl rfl ?_
        refine pr_ref (j := 15) (S' := (38, [(0, .ref m0), (1, .int (nI k)), (2, .int (nI i))], [.ref (q 15), .int (nI i), .ref (q 13)], M1)) rfl hR1 rfl rfl ?_
        refine ps_st (S' := (39, [(0, .ref m0), (1, .int (nI k)), (2, .int (nI i))], [.int (nI i), .ref (q 15), .int (nI i), .ref (q 13)], M1)) rfl rfl rfl ?_
        refine pr_ld (a := 15) (j := i) (y := (C i)) (S' := (40, [(0, .ref m0), (1, .int (nI k)), (2, .int (nI i))], [.int (C i), .int (nI i), .ref (q 13)], M1)) rfl hR1 rfl (by omega) (fun _ => (hC1 i (by omega)).1) rfl (fun i1_39 => ?_)
        refine pr_st (a := 13) (j := i) rfl hR1 rfl (by omega) (fun M18 R19 i1_40 hR20 hS21 => ?_)
        have hC_22 := hC1.mono (fun _ _ => rfl) (rRx hS21 (by decide))
        have hER23 := hER1.st hS21 (by decide)
        show pl _ _ _ (41, [(0, .ref m0), (1, .int (nI k)), (2, .int (nI i))], [], M18) _
        have hB_24 : BX 13 (i + 1) C I1 R19 := BX.st hB1 hS21 (hC1 i (by omega)).2 rfl
        refine ps_st (S' := (44, [(2, .int ((nI i) + 1)), (0, .ref m0), (1, .int (nI k))], [], M18)) rfl rfl rfl ?_
        rw [nI_add1 (p := i) (k := 1) (x := 1) rfl (by omega)]
        show pl _ _ _ (_, [(2, .int (nI (i + 1))), (0, .ref m0), (1, .int (nI k))], [], M18) _
        refine ps_st (S' := (24, [(0, .ref m0), (1, .int (nI k)), (2, .int (nI (i + 1)))], [], M18)) rfl rfl rfl ?_
        exact ih (i + 1) M18 I1 R19 hR20 hEI1 hER23 hC_22 hB_24 (by omega)
  refine ps_st (S' := (1, [(0, .ref m0), (1, .int (nI k))], [.ref m0], M)) rfl rfl rfl ?_
  refine ps_st (S' := (2, [(0, .ref m0), (1, .int (nI k))], [.int 0, .ref m0], M)) rfl rfl rfl ?_
  refine pr_put (j := 0) rfl hR rfl (fun M25 I26 hR27 hi28 hI29 => ?_)
  have hi30 := (hI29 19 (by decide)).trans hi19
  have hC_31 := hC.mono (pIx hI29 (by decide)) (fun _ _ => rfl)
  have hEI32 := hEI.put hI29 (by decide)
  show pl _ _ _ (5, [(0, .ref m0), (1, .int (nI k))], [], M25) _
  refine ps_st (S' := (6, [(0, .ref m0), (1, .int (nI k))], [.int (nI k)], M25)) rfl rfl rfl ?_
  refine ps_if (S1 := (17, [(0, .ref m0)], [], M25)) (S2 := (9, [(0, .ref m0), (1, .int (nI k))], [], M25)) rfl rfl rfl (fun c_6 => ?_) (fun c_6 => ?_)
  · exact absurd (of_decide_eq_true c_6) (show ¬ ((nI k) < 0) from fun h9 => absurd ((lt_nI (p := k) (n := 0) (by omega) (by decide)).mp h9) (by omega))
  refine ps_st (S' := (10, [(0, .ref m0), (1, .int (nI k))], [.int (nI k)], M25)) rfl rfl rfl ?_
  refine ps_st (S' := (11, [(0, .ref m0), (1, .int (nI k))], [.ref m0, .int (nI k)], M25)) rfl rfl rfl ?_
  refine pr_int (j := 19) (S' := (14, [(0, .ref m0), (1, .int (nI k))], [.int (nI c), .int (nI k)], M25)) rfl hR27 rfl hi30 rfl ?_
  refine ps_if2 (S1 := (22, [(0, .ref m0), (1, .int (nI k))], [], M25)) (S2 := (17, [(0, .ref m0)], [], M25)) rfl rfl rfl (fun c_14 => ?_) (fun c_14 => ?_)
  · have c_14 : (nI k) ≤ (nI c) := of_decide_eq_true c_14
    have n_14 : k ≤ c := (le_nI (p := k) (n := c) (by omega) (by omega)).mp c_14
    refine ps_st (S' := (23, [(0, .ref m0), (1, .int (nI k))], [.int 0], M25)) rfl rfl rfl ?_
    refine ps_st (S' := (24, [(0, .ref m0), (1, .int (nI k)), (2, .int 0)], [], M25)) rfl rfl rfl ?_
    have hB0 : BX 13 0 C I26 R := fun i9 h9 => absurd h9 (Nat.not_lt_zero _)
    exact (LL kf) (0) M25 I26 R hR27 hEI32 hER hC_31 hB0 (by omega)
  · have c_14 : ¬ ((nI k) ≤ (nI c)) := of_decide_eq_false c_14
    have n_14 : ¬ (k ≤ c) := fun h9 => c_14 ((le_nI (p := k) (n := c) (by omega) (by omega)).mpr h9)
    refine ps_st (S' := (18, [(0, .ref m0)], [.ref m0], M25)) rfl rfl rfl ?_
    refine pl_call (a := [.ref m0]) (rest := []) rfl rfl rfl (rd_bad hR27) (fun v33 M34 q35 => ?_)
    obtain ⟨I36, R37, rfl, hR38, hI39, hX40, hi41⟩ := q35
    have hi42 := (hI39 19 (by decide)).trans hi30
    have hC_43 := hC_31.mono (cIx hI39 (by decide)) (cRx hX40 (by decide))
    have hEI44 := hEI32.tr hI39 (by decide)
    have hER45 := hER.tr hX40 (by decide)
    show pl _ _ _ (21, [(0, .ref m0)], [.int 0], M34) _
    exact ps_ret rfl rfl (absurd hk (by omega))
set_option maxHeartbeats 1000000 in
theorem rd_endno {g : xe_G} {m0 : Nat} {q : Nat → Nat} {z : Nat × Nat} {I : rI} {R : rR} {M : mi_H} {c : Nat} {x1 : Int32} (hR : RS g m0 q z I R M) (hi19 : I 19 = some (nI c))  (hc : c ≤ 65540) (hbad : x1 < 0 ∨ ¬ x1 ≤ nI c) : pt (mT g) 202 [.ref m0, .int x1] M (fun v M' => (∃  (I' : rI) (R' : rR), v = some (.int 0) ∧ RS g m0 q z I' R' M' ∧ eqI [0] I I' ∧ eqR [] R R')) := by
  refine pt_in (b := mb_202 g) rfl (fun kf => ?_)
  show pl (mT g) kf (mb_202 g).2 (0, [(0, .ref m0), (1, .int x1)], [], M) _
  have hEI : eqI [0] I I := eqI.rf
  have hER : eqR [] R R := eqR.rf
  refine ps_st (S' := (1, [(0, .ref m0), (1, .int x1)], [.ref m0], M)) rfl rfl rfl ?_
  refine ps_st (S' := (2, [(0, .ref m0), (1, .int x1)], [.int 0, .ref m0], M)) rfl rfl rfl ?_
  refine pr_put (j := 0) rfl hR rfl (fun M1 I2 hR3 hi4 hI5 => ?_)
  have hi6 := (hI5 19 (by decide)).trans hi19
  have hEI7 := hEI.put hI5 (by decide)
  show pl _ _ _ (5, [(0, .ref m0), (1, .int x1)], [], M1) _
  refine ps_st (S' := (6, [(0, .ref m0), (1, .int x1)], [.int x1], M1)) rfl rfl rfl ?_
  refine ps_if (S1 := (17, [(0, .ref m0)], [], M1)) (S2 := (9, [(0, .ref m0), (1, .int x1)], [], M1)) rfl rfl rfl (fun c_6 => ?_) (fun c_6 => ?_)
  · have c_6 : x1 < 0 := of_decide_eq_true c_6
    refine ps_st (S' := (18, [(0, .ref m0)], [.ref m0], M1)) rfl rfl rfl ?_
    refine pl_call (a := [.ref m0]) (rest := []) rfl rfl rfl (rd_bad hR3) (fun v8 M9 q10 => ?_)
    obtain ⟨I11, R12, rfl, hR13, hI14, hX15, hi16⟩ := q10
    have hi17 := (hI14 19 (by decide)).trans hi6
    have hEI18 := hEI7.tr hI14 (by decide)
    have hER19 := hER.tr hX15 (by decide)
    show pl _ _ _ (21, [(0, .ref m0)], [.int 0], M9) _
    exact ps_ret rfl rfl (⟨I11, R12, rfl, hR13, hEI18, hER19⟩)
  · have c_6 : ¬ (x1 < 0) := of_decide_eq_false c_6
    refine ps_st (S' := (10, [(0, .ref m0), (1, .int x1)], [.int x1], M1)) rfl rfl rfl ?_
    refine ps_st (S' := (11, [(0, .ref m0), (1, .int x1)], [.ref m0, .int x1], M1)) rfl rfl rfl ?_
    refine pr_int (j := 19) (S' := (14, [(0, .ref m0), (1, .int x1)], [.int (nI c), .int x1], M1)) rfl hR3 rfl hi6 rfl ?_
    refine ps_if2 (S1 := (22, [(0, .ref m0), (1, .int x1)], [], M1)) (S2 := (17, [(0, .ref m0)], [], M1)) rfl rfl rfl (fun c_14 => ?_) (fun c_14 => ?_)
    · have c_14 : x1 ≤ (nI c) := of_decide_eq_true c_14
      exfalso
      rcases hbad with h9 | h9
      · exact absurd h9 (by assumption)
      · exact h9 (by assumption)
    · have c_14 : ¬ (x1 ≤ (nI c)) := of_decide_eq_false c_14
      refine ps_st (S' := (18, [(0, .ref m0)], [.ref m0], M1)) rfl rfl rfl ?_
      refine pl_call (a := [.ref m0]) (rest := []) rfl rfl rfl (rd_bad hR3) (fun v20 M21 q22 => ?_)
      obtain ⟨I23, R24, rfl, hR25, hI26, hX27, hi28⟩ := q22
      have hi29 := (hI26 19 (by decide)).trans hi6
      have hEI30 := hEI7.tr hI26 (by decide)
      have hER31 := hER.tr hX27 (by decide)
      show pl _ _ _ (21, [(0, .ref m0)], [.int 0], M21) _
      exact ps_ret rfl rfl (⟨I23, R24, rfl, hR25, hEI30, hER31⟩)
set_option maxHeartbeats 1000000 in
theorem rd_place {g : xe_G} {m0 : Nat} {q : Nat → Nat} {z : Nat × Nat} {I : rI} {R : rR} {M : mi_H} {lp : Int32} (hR : RS g m0 q z I R M) (hi73 : I 73 = some lp)   : pt (mT g) 231 [.ref m0] M (fun v M' => (∃  (I' : rI) (R' : rR), v = some (.int lp) ∧ RS g m0 q z I' R' M' ∧ eqI [0] I I' ∧ eqR [] R R')) := by
  refine pt_in (b := mb_231 g) rfl (fun kf => ?_)
  show pl (mT g) kf (mb_231 g).2 (0, [(0, .ref m0)], [], M) _
  have hEI : eqI [0] I I := eqI.rf
  have hER : eqR [] R R := eqR.rf
  refine ps_st (S' := (1, [(0, .ref m0)], [.ref m0], M)) rfl rfl rfl ?_
  refine ps_st (S' := (2, [(0, .ref m0)], [.int 0, .ref m0], M)) rfl rfl rfl ?_
  refine pr_put (j := 0) rfl hR rfl (fun M1 I2 hR3 hi4 hI5 => ?_)
  have hi6 := (hI5 73 (by decide)).trans hi73
  have hEI7 := hEI.put hI5 (by decide)
  show pl _ _ _ (5, [(0, .ref m0)], [], M1) _
  refine ps_st (S' := (6, [(0, .ref m0)], [.ref m0], M1)) rfl rfl rfl ?_
  refine pr_int (j := 73) (S' := (9, [(0, .ref m0)], [.int lp], M1)) rfl hR3 rfl hi6 rfl ?_
  exact ps_reti rfl (⟨I2, R, rfl, hR3, hEI7, hER⟩)
end
section
/-! bytes come to the class (my own text) -/
section CPA
variable {g : xe_G} {M : mi_H} {d : Nat}
theorem ct_copyX {a0 m : Nat} {f : Nat → Int32} {x1 : Int32} (h : M.1 a0 = some (ar .byte m f)) (hf : ∀ i, fits .byte (.int (f i)) = true) (hg : a0 ≠ g.1) (hg2 : M.2.1 ≠ g.1) (h0 : 0 ≤ x1.toInt) (h1 : x1.toInt ≤ 134217728) (hm : m < 1073741824) (hne : x1 ≠ nI m) (hl : a0 < M.2.1) (hd : 1 ≤ d) :
    mt (mT g) d 258 [.ref a0, .int x1] M (fun v M' => v = some (.ref M.2.1) ∧ ∃ f', ((∀ i, fits .byte (.int (f' i)) = true) ∧ ∀ i, f' i = if i < x1.toNatClampNeg ∧ i < m then f i else 0) ∧ M' = mk1 M (ar .byte x1.toNatClampNeg f') x1.toNatClampNeg) := by
  obtain ⟨d, rfl⟩ : ∃ e, d = e + 1 := ⟨d - 1, by omega⟩
  refine mt_in (b := mb_258 g) rfl rfl ?_
  show ml (mT g) d (mb_258 g).2 (0, [(0, .ref a0), (1, .int x1)], [], M) _
  refine ml_blk 2 (S' := (2, [(0, .ref a0), (1, .int x1)], [.ref a0, .int x1], M)) rfl ?_
  refine mo_alen (S' := (3, [(0, .ref a0), (1, .int x1)], [.int (nI m), .int x1], M)) rfl h rfl ?_
  refine ml_if2 (S1 := (14, [(0, .ref a0), (1, .int x1)], [], M)) (S2 := (6, [(0, .ref a0), (1, .int x1)], [], M)) rfl rfl rfl (fun c_3 => ?_) (fun c_3 => ?_)
  rotate_left
  · exact absurd hne (of_decide_eq_false c_3)
  refine ml_st (S' := (15, [(0, .ref a0), (1, .int x1)], [.int x1], M)) rfl rfl rfl ?_
  refine ml_newa (S' := (17, [(0, .ref a0), (1, .int x1)], [.ref M.2.1], mk1 M (ar .byte x1.toNatClampNeg (fun _ => 0)) x1.toNatClampNeg)) rfl h0 h1 rfl ?_
  have k0 : (mk1 M (ar .byte x1.toNatClampNeg (fun _ => 0)) x1.toNatClampNeg).1 a0 = some (ar .byte m f) := (mk1_ne (Nat.ne_of_lt hl)).trans h
  have k1 : (mk1 M (ar .byte x1.toNatClampNeg (fun _ => 0)) x1.toNatClampNeg).1 M.2.1 = some (ar .byte x1.toNatClampNeg (fun _ => 0)) := mk1_at
  have k2 : ∀ c, up (mk1 M (ar .byte x1.toNatClampNeg (fun _ => 0)) x1.toNatClampNeg) M.2.1 c = mk1 M c x1.toNatClampNeg := fun c => mk1_up
  generalize mk1 M (ar .byte x1.toNatClampNeg (fun _ => 0)) x1.toNatClampNeg = M1 at k0 k1 k2 ⊢
  refine ml_st (S' := (18, [(2, .ref M.2.1), (0, .ref a0), (1, .int x1)], [], M1)) rfl rfl rfl ?_
  refine ml_blk 5 (S' := (23, [(2, .ref M.2.1), (0, .ref a0), (1, .int x1)], [.ref a0, .int 0, .ref M.2.1, .int 0, .ref a0], M1)) rfl ?_
  refine mo_alen (S' := (24, [(2, .ref M.2.1), (0, .ref a0), (1, .int x1)], [.int (nI m), .int 0, .ref M.2.1, .int 0, .ref a0], M1)) rfl k0 rfl ?_
  refine ml_blk 2 (S' := (28, [(2, .ref M.2.1), (0, .ref a0), (1, .int x1)], [.int (if x1 < nI m then x1 else nI m), .int 0, .ref M.2.1, .int 0, .ref a0], M1)) rfl ?_
  have hmn : 0 ≤ (if x1 < nI m then x1 else nI m).toInt ∧ (if x1 < nI m then x1 else nI m).toInt ≤ m ∧ (if x1 < nI m then x1 else nI m).toInt ≤ x1.toInt ∧ ((if x1 < nI m then x1 else nI m).toInt = m ∨ (if x1 < nI m then x1 else nI m).toInt = x1.toInt) := by
    have e := nI_val hm
    split
    · rename_i q
      have := i_lt q
      omega
    · rename_i q
      have := i_nlt q
      omega
  generalize (if x1 < nI m then x1 else nI m) = n9 at hmn ⊢
  have hN : (n9.toNatClampNeg : Int) = n9.toInt := by
    show ((n9.toInt.toNat : Nat) : Int) = _
    omega
  have hX : (x1.toNatClampNeg : Int) = x1.toInt := by
    show ((x1.toInt.toNat : Nat) : Int) = _
    omega
  have z0 : Int32.toNatClampNeg 0 = 0 := rfl
  refine ml_st (S1 := (31, [(2, .ref M.2.1), (0, .ref a0), (1, .int x1)], [], mk1 M (ar .byte x1.toNatClampNeg (va_cpy f (fun _ => 0) 0 0 n9.toNatClampNeg)) x1.toNatClampNeg)) (S' := (31, [(2, .ref M.2.1), (0, .ref a0), (1, .int x1)], [], mk1 M (ar .byte x1.toNatClampNeg (va_cpy f (fun _ => 0) 0 0 n9.toNatClampNeg)) x1.toNatClampNeg)) rfl ?_ rfl ?_
  · simp only [o_acopy2, ga_ar k0, ga_ar k1]
    rw [if_pos ⟨Ne.symm (Nat.ne_of_lt hl), hg, hg2, by decide, by decide, nlt0 hmn.1, by rw [z0]; omega, by rw [z0]; omega, by decide, List.all_eq_true.mpr (fun i _ => hf _)⟩]
    rw [← k2, z0, cpy_some]
    rfl
  · refine ml_st (S' := (32, [(2, .ref M.2.1), (0, .ref a0), (1, .int x1)], [.ref M.2.1], mk1 M (ar .byte x1.toNatClampNeg (va_cpy f (fun _ => 0) 0 0 n9.toNatClampNeg)) x1.toNatClampNeg)) rfl rfl rfl ?_
    refine ml_ret rfl rfl ⟨rfl, _, ⟨fun i => ?_, fun i => ?_⟩, rfl⟩
    · unfold va_cpy
      split
      · exact hf _
      · rfl
    · unfold va_cpy
      by_cases h9 : i < x1.toNatClampNeg ∧ i < m
      · rw [if_pos h9, if_pos (by omega)]
        congr 1
        omega
      · rw [if_neg h9, if_neg (by omega)]
theorem pt.im {T : Nat → Option (Nat × mi_B)} {y : Nat} {a : List Value} {Q Q' : Option Value → mi_H → Prop} (h : pt T y a M Q) (k : ∀ v M', Q v M' → Q' v M') : pt T y a M Q' := fun n d r hr => k _ _ (h n d r hr)
theorem upd_b {C : Nat → Int32} {i : Nat} {x : Int32} (h : ∀ i, fits .byte (.int (C i)) = true) : ∀ j, fits .byte (.int (upd C i (vp_nar .byte x) j)) = true := fun j => by
  unfold upd
  split
  · rw [vp_nar_byte]
    exact fits_b _
  · exact h j
/-- the four bytes as the class stores them -/
theorem upd4 {C : Nat → Int32} {c i : Nat} {x : Int32} (hc : c < 1073741000) (hi : i < c + 4) : upd (upd (upd (upd C (Int32.toNatClampNeg (nI c)) (vp_nar .byte (ush x 24).toInt8.toInt32)) (Int32.toNatClampNeg (nI (c + 1))) (vp_nar .byte (ush x 16).toInt8.toInt32)) (Int32.toNatClampNeg (nI (c + 2))) (vp_nar .byte (ush x 8).toInt8.toInt32)) (Int32.toNatClampNeg (nI (c + 3))) (vp_nar .byte x.toInt8.toInt32) i = wr4 C c x i := by
  rw [nI_toNat (by omega), nI_toNat (by omega), nI_toNat (by omega), nI_toNat (by omega), nar_b, nar_b, nar_b, nar_b]
  unfold upd wr4 wB
  by_cases h0 : i < c
  · rw [if_pos h0, if_neg (by omega), if_neg (by omega), if_neg (by omega), if_neg (by omega)]
  · rw [if_neg h0]
    by_cases h3 : i = c + 3
    · rw [if_pos h3, if_neg (by omega), if_neg (by omega), if_neg (by omega)]
    · rw [if_neg h3]
      by_cases h2 : i = c + 2
      · rw [if_pos h2, if_neg (by omega), if_neg (by omega), if_pos (by omega)]
      · rw [if_neg h2]
        by_cases h1 : i = c + 1
        · rw [if_pos h1, if_neg (by omega), if_pos (by omega)]
        · rw [if_neg h1, if_pos (by omega), if_pos (by omega)]
theorem wr4_cg {C C' : Nat → Int32} {c i : Nat} {x : Int32} (h : ∀ j, j < c → C' j = C j) : wr4 C' c x i = wr4 C c x i := by
  unfold wr4
  split
  · exact h i (by assumption)
  · rfl
theorem end_if {k m i : Nat} {a b : Int32} (h : k ≤ m) : (if i < k ∧ i < m then a else b) = if i < k then a else b := by
  by_cases h9 : i < k
  · rw [if_pos h9, if_pos (by omega)]
  · rw [if_neg h9, if_neg (by omega)]
end CPA
theorem dk_copyOf {g : xe_G} {M : mi_H} {m k cm : Nat} {C : Nat → Int32} (h_cm : M.1 cm = some (ar .byte m C)) (hfit : ∀ i, fits .byte (.int (C i)) = true) (hgl : g.1 < M.2.1) (hcg : cm ≠ g.1) (hk : k ≤ 134217728) (hm : m < 1073741824) (hne : ¬ k = m) (hcl : cm < M.2.1) : pt (mT g) 258 [.ref cm, .int (nI k)] M (fun v M' => (∃ (C2 : Nat → Int32), (∀ i, fits .byte (.int (C2 i)) = true) ∧ (∀ i, C2 i = if i < k ∧ i < m then C i else 0) ∧ v = some (.ref (M.2.1)) ∧ M'.1 M.2.1 = some (ar .byte k C2) ∧ gm [] M M' ∧ M'.2.1 = M.2.1 + 1)) := by
  have hk2 := nI_toNat (k := k) (by omega)
  have hkv : (nI k).toInt = k := nI_val (by omega)
  refine ((ct_copyX (d := 1) (x1 := nI k) h_cm hfit hcg (Nat.ne_of_gt hgl) (by rw [hkv]; omega) (by rw [hkv]; omega) hm (fun e => hne ((eq_nI (by omega) (by omega)).mp e)) hcl (Nat.le_refl _)).pt).im (fun v M' hq => ?_)
  obtain ⟨rfl, C2, ⟨hb, hc⟩, rfl⟩ := hq
  rw [hk2] at hc ⊢
  exact ⟨C2, hb, hc, rfl, mk1_at, ⟨fun z h1 _ => mk1_ne (Nat.ne_of_lt h1), Nat.le_succ _⟩, rfl⟩
set_option maxHeartbeats 1000000 in
theorem dk_takeWord {g : xe_G} {M : mi_H} {m cm o c fl : Nat} {C : Nat → Int32} {kv : Value} {wp : Int32} {x : Int32} (h_o : M.1 o = some (ob 11 [.ref cm, .int (nI c), .ref fl, kv, .int wp])) (h_cm : M.1 cm = some (ar .byte m C)) (hfit : ∀ i, fits .byte (.int (C i)) = true) (hgl : g.1 < M.2.1) (hcg : cm ≠ g.1) (hm : m ≤ 60000000) (hm4 : 4 ≤ m) (hc : c ≤ m) (ho : o < M.2.1) (hcl : cm < M.2.1) (hoc : ¬ o = cm) : pt (mT g) 20 [.ref o, .int x] M (fun v M' => (∃ (cm2 m2 : Nat) (C2 : Nat → Int32), (cm2 = cm ∨ M.2.1 ≤ cm2) ∧ (cm2 < M'.2.1) ∧ (c + 4 ≤ m2) ∧ (m2 = m ∨ m2 < 2 * (c + 4)) ∧ (4 ≤ m2) ∧ (∀ i, fits .byte (.int (C2 i)) = true) ∧ (∀ i, i < c + 4 → C2 i = wr4 C c x i) ∧ v = none ∧ M'.1 cm2 = some (ar .byte m2 C2) ∧ M'.1 o = some (ob 11 [.ref cm2, .int (nI (c + 4)), .ref fl, kv, .int wp]) ∧ gm [o, cm] M M' ∧ M.2.1 ≤ M'.2.1)) := by
  refine pt_in (b := mb_20 g) rfl (fun kf => ?_)
  show pl (mT g) kf (mb_20 g).2 (0, [(0, .ref o), (1, .int x)], [], M) _
  have hF : gm [o, cm] M M := gm.rf
  obtain ⟨z0, tp0⟩ : ∃ z0, M.2.1 = z0 := ⟨_, rfl⟩
  refine ps_st (S' := (1, [(0, .ref o), (1, .int x)], [.ref o], M)) rfl rfl rfl ?_
  refine ps_get (S' := (4, [(0, .ref o), (1, .int x)], [.ref cm], M)) rfl h_o rfl rfl ?_
  refine ps_alen (S' := (5, [(0, .ref o), (1, .int x)], [.int (nI m)], M)) rfl h_cm rfl ?_
  refine ps_st (S' := (6, [(0, .ref o), (1, .int x)], [.ref o, .int (nI m)], M)) rfl rfl rfl ?_
  refine ps_get (S' := (9, [(0, .ref o), (1, .int x)], [.int (nI c), .int (nI m)], M)) rfl h_o rfl rfl ?_
  refine ps_st (S' := (10, [(0, .ref o), (1, .int x)], [.int ((nI m) - (nI c))], M)) rfl rfl rfl ?_
  rw [nI_sub1 (p := m) (k := c) (x := (nI c)) rfl (by omega) (by omega)]
  show pl _ _ _ (_, [(0, .ref o), (1, .int x)], [.int (nI (m - c))], M) _
  refine ps_st (S' := (11, [(0, .ref o), (1, .int x)], [.int 4, .int (nI (m - c))], M)) rfl rfl rfl ?_
  refine ps_if2 (S1 := (32, [(0, .ref o), (1, .int x)], [], M)) (S2 := (14, [(0, .ref o), (1, .int x)], [], M)) rfl rfl rfl (fun c_11 => ?_) (fun c_11 => ?_)
  · have c_11 : 4 ≤ (nI (m - c)) := of_decide_eq_true c_11
    have n_11 : 4 ≤ m - c := (le_nI (p := 4) (n := m - c) (by decide) (by omega)).mp c_11
    refine ps_st (S' := (33, [(0, .ref o), (1, .int x)], [.ref o], M)) rfl rfl rfl ?_
    refine ps_get (S' := (36, [(0, .ref o), (1, .int x)], [.ref cm], M)) rfl h_o rfl rfl ?_
    refine ps_st (S' := (37, [(0, .ref o), (1, .int x)], [.ref o, .ref cm], M)) rfl rfl rfl ?_
    refine ps_get (S' := (40, [(0, .ref o), (1, .int x)], [.int (nI c), .ref cm], M)) rfl h_o rfl rfl ?_
    refine ps_st (S' := (41, [(0, .ref o), (1, .int x)], [.int x, .int (nI c), .ref cm], M)) rfl rfl rfl ?_
    refine ps_st (S' := (43, [(0, .ref o), (1, .int x)], [.int 24, .int x, .int (nI c), .ref cm], M)) rfl rfl rfl ?_
    refine ps_st (S' := (44, [(0, .ref o), (1, .int x)], [.int ((x.toUInt32 >>> ((24 : Int32).toUInt32 &&& Int32.toUInt32 31)).toInt32), .int (nI c), .ref cm], M)) rfl rfl rfl ?_
    refine ps_st (S' := (45, [(0, .ref o), (1, .int x)], [.int (((x.toUInt32 >>> ((24 : Int32).toUInt32 &&& Int32.toUInt32 31)).toInt32).toInt8.toInt32), .int (nI c), .ref cm], M)) rfl rfl rfl ?_
    refine ps_ast rfl h_cm (fun M1 i0_45 i1_45 h2 f3 z4 => ?_)
    have h5 := (f3 o (ob_ar h_o h_cm)).trans h_o
    have hF6 := hF.up (Or.inl (by simp)) f3 (by rw [z4]; exact Nat.le_refl _)
    have tp7 : M1.2.1 = z0 := by rw [z4]; exact tp0
    show pl _ _ _ (46, [(0, .ref o), (1, .int x)], [], M1) _
    refine ps_st (S' := (47, [(0, .ref o), (1, .int x)], [.ref o], M1)) rfl rfl rfl ?_
    refine ps_get (S' := (50, [(0, .ref o), (1, .int x)], [.ref cm], M1)) rfl h5 rfl rfl ?_
    refine ps_st (S' := (51, [(0, .ref o), (1, .int x)], [.ref o, .ref cm], M1)) rfl rfl rfl ?_
    refine ps_get (S' := (54, [(0, .ref o), (1, .int x)], [.int (nI c), .ref cm], M1)) rfl h5 rfl rfl ?_
    refine ps_st (S' := (55, [(0, .ref o), (1, .int x)], [.int 1, .int (nI c), .ref cm], M1)) rfl rfl rfl ?_
    refine ps_st (S' := (56, [(0, .ref o), (1, .int x)], [.int ((nI c) + 1), .ref cm], M1)) rfl rfl rfl ?_
    rw [nI_add1 (p := c) (k := 1) (x := 1) rfl (by omega)]
    show pl _ _ _ (_, [(0, .ref o), (1, .int x)], [.int (nI (c + 1)), .ref cm], M1) _
    refine ps_st (S' := (57, [(0, .ref o), (1, .int x)], [.int x, .int (nI (c + 1)), .ref cm], M1)) rfl rfl rfl ?_
    refine ps_st (S' := (59, [(0, .ref o), (1, .int x)], [.int 16, .int x, .int (nI (c + 1)), .ref cm], M1)) rfl rfl rfl ?_
    refine ps_st (S' := (60, [(0, .ref o), (1, .int x)], [.int ((x.toUInt32 >>> ((16 : Int32).toUInt32 &&& Int32.toUInt32 31)).toInt32), .int (nI (c + 1)), .ref cm], M1)) rfl rfl rfl ?_
    refine ps_st (S' := (61, [(0, .ref o), (1, .int x)], [.int (((x.toUInt32 >>> ((16 : Int32).toUInt32 &&& Int32.toUInt32 31)).toInt32).toInt8.toInt32), .int (nI (c + 1)), .ref cm], M1)) rfl rfl rfl ?_
    refine ps_ast rfl h2 (fun M8 i0_61 i1_61 h9 f10 z11 => ?_)
    have h12 := (f10 o (ob_ar h5 h2)).trans h5
    have hF13 := hF6.up (Or.inl (by simp)) f10 (by rw [z11]; exact Nat.le_refl _)
    have tp14 : M8.2.1 = z0 := by rw [z11]; exact tp7
    show pl _ _ _ (62, [(0, .ref o), (1, .int x)], [], M8) _
    refine ps_st (S' := (63, [(0, .ref o), (1, .int x)], [.ref o], M8)) rfl rfl rfl ?_
    refine ps_get (S' := (66, [(0, .ref o), (1, .int x)], [.ref cm], M8)) rfl h12 rfl rfl ?_
    refine ps_st (S' := (67, [(0, .ref o), (1, .int x)], [.ref o, .ref cm], M8)) rfl rfl rfl ?_
    refine ps_get (S' := (70, [(0, .ref o), (1, .int x)], [.int (nI c), .ref cm], M8)) rfl h12 rfl rfl ?_
    refine ps_st (S' := (71, [(0, .ref o), (1, .int x)], [.int 2, .int (nI c), .ref cm], M8)) rfl rfl rfl ?_
    refine ps_st (S' := (72, [(0, .ref o), (1, .int x)], [.int ((nI c) + 2), .ref cm], M8)) rfl rfl rfl ?_
    rw [nI_add1 (p := c) (k := 2) (x := 2) rfl (by omega)]
    show pl _ _ _ (_, [(0, .ref o), (1, .int x)], [.int (nI (c + 2)), .ref cm], M8) _
    refine ps_st (S' := (73, [(0, .ref o), (1, .int x)], [.int x, .int (nI (c + 2)), .ref cm], M8)) rfl rfl rfl ?_
    refine ps_st (S' := (75, [(0, .ref o), (1, .int x)], [.int 8, .int x, .int (nI (c + 2)), .ref cm], M8)) rfl rfl rfl ?_
    refine ps_st (S' := (76, [(0, .ref o), (1, .int x)], [.int ((x.toUInt32 >>> ((8 : Int32).toUInt32 &&& Int32.toUInt32 31)).toInt32), .int (nI (c + 2)), .ref cm], M8)) rfl rfl rfl ?_
    refine ps_st (S' := (77, [(0, .ref o), (1, .int x)], [.int (((x.toUInt32 >>> ((8 : Int32).toUInt32 &&& Int32.toUInt32 31)).toInt32).toInt8.toInt32), .int (nI (c + 2)), .ref cm], M8)) rfl rfl rfl ?_
    refine ps_ast rfl h9 (fun M15 i0_77 i1_77 h16 f17 z18 => ?_)
    have h19 := (f17 o (ob_ar h12 h9)).trans h12
    have hF20 := hF13.up (Or.inl (by simp)) f17 (by rw [z18]; exact Nat.le_refl _)
    have tp21 : M15.2.1 = z0 := by rw [z18]; exact tp14
    show pl _ _ _ (78, [(0, .ref o), (1, .int x)], [], M15) _
    refine ps_st (S' := (79, [(0, .ref o), (1, .int x)], [.ref o], M15)) rfl rfl rfl ?_
    refine ps_get (S' := (82, [(0, .ref o), (1, .int x)], [.ref cm], M15)) rfl h19 rfl rfl ?_
    refine ps_st (S' := (83, [(0, .ref o), (1, .int x)], [.ref o, .ref cm], M15)) rfl rfl rfl ?_
    refine ps_get (S' := (86, [(0, .ref o), (1, .int x)], [.int (nI c), .ref cm], M15)) rfl h19 rfl rfl ?_
    refine ps_st (S' := (87, [(0, .ref o), (1, .int x)], [.int 3, .int (nI c), .ref cm], M15)) rfl rfl rfl ?_
    refine ps_st (S' := (88, [(0, .ref o), (1, .int x)], [.int ((nI c) + 3), .ref cm], M15)) rfl rfl rfl ?_
    rw [nI_add1 (p := c) (k := 3) (x := 3) rfl (by omega)]
    show pl _ _ _ (_, [(0, .ref o), (1, .int x)], [.int (nI (c + 3)), .ref cm], M15) _
    refine ps_st (S' := (89, [(0, .ref o), (1, .int x)], [.int x, .int (nI (c + 3)), .ref cm], M15)) rfl rfl rfl ?_
    refine ps_st (S' := (90, [(0, .ref o), (1, .int x)], [.int (x.toInt8.toInt32), .int (nI (c + 3)), .ref cm], M15)) rfl rfl rfl ?_
    refine ps_ast rfl h16 (fun M22 i0_90 i1_90 h23 f24 z25 => ?_)
    have h26 := (f24 o (ob_ar h19 h16)).trans h19
    have hF27 := hF20.up (Or.inl (by simp)) f24 (by rw [z25]; exact Nat.le_refl _)
    have tp28 : M22.2.1 = z0 := by rw [z25]; exact tp21
    show pl _ _ _ (91, [(0, .ref o), (1, .int x)], [], M22) _
    refine ps_st (S' := (92, [(0, .ref o), (1, .int x)], [.ref o], M22)) rfl rfl rfl ?_
    refine ps_st (S' := (93, [(0, .ref o), (1, .int x)], [.ref o, .ref o], M22)) rfl rfl rfl ?_
    refine ps_get (S' := (96, [(0, .ref o), (1, .int x)], [.int (nI c), .ref o], M22)) rfl h26 rfl rfl ?_
    refine ps_st (S' := (97, [(0, .ref o), (1, .int x)], [.int 4, .int (nI c), .ref o], M22)) rfl rfl rfl ?_
    refine ps_st (S' := (98, [(0, .ref o), (1, .int x)], [.int ((nI c) + 4), .ref o], M22)) rfl rfl rfl ?_
    rw [nI_add1 (p := c) (k := 4) (x := 4) rfl (by omega)]
    show pl _ _ _ (_, [(0, .ref o), (1, .int x)], [.int (nI (c + 4)), .ref o], M22) _
    refine ps_put (l' := [.ref cm, .int (nI (c + 4)), .ref fl, kv, .int wp]) rfl h26 rfl rfl (fun M29 h30 f31 z32 => ?_)
    have h33 := (f31 cm (Ne.symm (ob_ar h26 h23))).trans h23
    have hF34 := hF27.up (Or.inl (by simp)) f31 (by rw [z32]; exact Nat.le_refl _)
    have tp35 : M29.2.1 = z0 := by rw [z32]; exact tp28
    show pl _ _ _ (101, [(0, .ref o), (1, .int x)], [], M29) _
    exact ps_ret rfl rfl (⟨cm, m, _, by omega, by omega, by omega, by omega, by omega, upd_b (upd_b (upd_b (upd_b hfit))), fun i hi => upd4 (by omega) hi, rfl, h33, h30, hF34, hF34.2⟩)
  · have c_11 : ¬ (4 ≤ (nI (m - c))) := of_decide_eq_false c_11
    have n_11 : ¬ (4 ≤ m - c) := fun h9 => c_11 ((le_nI (p := 4) (n := m - c) (by decide) (by omega)).mpr h9)
    refine ps_st (S' := (15, [(0, .ref o), (1, .int x)], [.ref o], M)) rfl rfl rfl ?_
    refine ps_st (S' := (16, [(0, .ref o), (1, .int x)], [.ref o, .ref o], M)) rfl rfl rfl ?_
    refine ps_get (S' := (19, [(0, .ref o), (1, .int x)], [.ref cm, .ref o], M)) rfl h_o rfl rfl ?_
    refine ps_st (S' := (20, [(0, .ref o), (1, .int x)], [.ref o, .ref cm, .ref o], M)) rfl rfl rfl ?_
    refine ps_get (S' := (23, [(0, .ref o), (1, .int x)], [.ref cm, .ref cm, .ref o], M)) rfl h_o rfl rfl ?_
    refine ps_alen (S' := (24, [(0, .ref o), (1, .int x)], [.int (nI m), .ref cm, .ref o], M)) rfl h_cm rfl ?_
    refine ps_st (S' := (25, [(0, .ref o), (1, .int x)], [.int 2, .int (nI m), .ref cm, .ref o], M)) rfl rfl rfl ?_
    refine ps_st (S' := (26, [(0, .ref o), (1, .int x)], [.int ((nI m) * 2), .ref cm, .ref o], M)) rfl rfl rfl ?_
    rw [nI_mul1 (p := m) (k := 2) (x := (nI m)) (y := 2) rfl rfl (by omega)]
    show pl _ _ _ (_, [(0, .ref o), (1, .int x)], [.int (nI (m * 2)), .ref cm, .ref o], M) _
    refine pl_call (a := [.ref cm, .int (nI (m * 2))]) (rest := [.ref o]) rfl rfl rfl (dk_copyOf (m := m) (k := (m * 2)) (cm := cm) (C := C) h_cm (hfit) (by omega) (hcg) (by omega) (by omega) (by omega) (by omega)) (fun v36 M37 q38 => ?_)
    obtain ⟨C239, q26_b, q26_c, rfl, h40, f41, tp42⟩ := q38
    rw [show Value.ref M.2.1 = Value.ref z0 from congrArg Value.ref tp0]
    rw [tp0] at h40 tp42
    have h43 := (f41.1 o (by omega) (by simp)).trans h_o
    have h44 := (f41.1 cm (by omega) (by simp)).trans h_cm
    have hF45 := hF.tr f41 (by intro z hz; simp only [List.mem_cons, List.not_mem_nil, or_false] at hz ⊢; try omega)
    show pl _ _ _ (29, [(0, .ref o), (1, .int x)], [.ref z0, .ref o], M37) _
    refine ps_put (l' := [.ref z0, .int (nI c), .ref fl, kv, .int wp]) rfl h43 rfl rfl (fun M46 h47 f48 z49 => ?_)
    have h50 := (f48 cm (Ne.symm (ob_ar h43 h44))).trans h44
    have h51 := (f48 z0 (show z0 ≠ o by omega)).trans h40
    have hF52 := hF45.up (Or.inl (by simp)) f48 (by rw [z49]; exact Nat.le_refl _)
    have tp53 : M46.2.1 = z0 + 1 := by rw [z49]; exact tp42
    show pl _ _ _ (32, [(0, .ref o), (1, .int x)], [], M46) _
    refine ps_st (S' := (33, [(0, .ref o), (1, .int x)], [.ref o], M46)) rfl rfl rfl ?_
    refine ps_get (S' := (36, [(0, .ref o), (1, .int x)], [.ref z0], M46)) rfl h47 rfl rfl ?_
    refine ps_st (S' := (37, [(0, .ref o), (1, .int x)], [.ref o, .ref z0], M46)) rfl rfl rfl ?_
    refine ps_get (S' := (40, [(0, .ref o), (1, .int x)], [.int (nI c), .ref z0], M46)) rfl h47 rfl rfl ?_
    refine ps_st (S' := (41, [(0, .ref o), (1, .int x)], [.int x, .int (nI c), .ref z0], M46)) rfl rfl rfl ?_
    refine ps_st (S' := (43, [(0, .ref o), (1, .int x)], [.int 24, .int x, .int (nI c), .ref z0], M46)) rfl rfl rfl ?_
    refine ps_st (S' := (44, [(0, .ref o), (1, .int x)], [.int ((x.toUInt32 >>> ((24 : Int32).toUInt32 &&& Int32.toUInt32 31)).toInt32), .int (nI c), .ref z0], M46)) rfl rfl rfl ?_
    refine ps_st (S' := (45, [(0, .ref o), (1, .int x)], [.int (((x.toUInt32 >>> ((24 : Int32).toUInt32 &&& Int32.toUInt32 31)).toInt32).toInt8.toInt32), .int (nI c), .ref z0], M46)) rfl rfl rfl ?_
    refine ps_ast rfl h51 (fun M54 i0_45 i1_45 h55 f56 z57 => ?_)
    have h58 := (f56 o (show o ≠ z0 by omega)).trans h47
    have h59 := (f56 cm (show cm ≠ z0 by omega)).trans h50
    have hF60 := hF52.up (Or.inr (by omega)) f56 (by rw [z57]; exact Nat.le_refl _)
    have tp61 : M54.2.1 = z0 + 1 := by rw [z57]; exact tp53
    show pl _ _ _ (46, [(0, .ref o), (1, .int x)], [], M54) _
    refine ps_st (S' := (47, [(0, .ref o), (1, .int x)], [.ref o], M54)) rfl rfl rfl ?_
    refine ps_get (S' := (50, [(0, .ref o), (1, .int x)], [.ref z0], M54)) rfl h58 rfl rfl ?_
    refine ps_st (S' := (51, [(0, .ref o), (1, .int x)], [.ref o, .ref z0], M54)) rfl rfl rfl ?_
    refine ps_get (S' := (54, [(0, .ref o), (1, .int x)], [.int (nI c), .ref z0], M54)) rfl h58 rfl rfl ?_
    refine ps_st (S' := (55, [(0, .ref o), (1, .int x)], [.int 1, .int (nI c), .ref z0], M54)) rfl rfl rfl ?_
    refine ps_st (S' := (56, [(0, .ref o), (1, .int x)], [.int ((nI c) + 1), .ref z0], M54)) rfl rfl rfl ?_
    rw [nI_add1 (p := c) (k := 1) (x := 1) rfl (by omega)]
    show pl _ _ _ (_, [(0, .ref o), (1, .int x)], [.int (nI (c + 1)), .ref z0], M54) _
    refine ps_st (S' := (57, [(0, .ref o), (1, .int x)], [.int x, .int (nI (c + 1)), .ref z0], M54)) rfl rfl rfl ?_
    refine ps_st (S' := (59, [(0, .ref o), (1, .int x)], [.int 16, .int x, .int (nI (c + 1)), .ref z0], M54)) rfl rfl rfl ?_
    refine ps_st (S' := (60, [(0, .ref o), (1, .int x)], [.int ((x.toUInt32 >>> ((16 : Int32).toUInt32 &&& Int32.toUInt32 31)).toInt32), .int (nI (c + 1)), .ref z0], M54)) rfl rfl rfl ?_
    refine ps_st (S' := (61, [(0, .ref o), (1, .int x)], [.int (((x.toUInt32 >>> ((16 : Int32).toUInt32 &&& Int32.toUInt32 31)).toInt32).toInt8.toInt32), .int (nI (c + 1)), .ref z0], M54)) rfl rfl rfl ?_
    refine ps_ast rfl h55 (fun M62 i0_61 i1_61 h63 f64 z65 => ?_)
    have h66 := (f64 o (show o ≠ z0 by omega)).trans h58
    have h67 := (f64 cm (show cm ≠ z0 by omega)).trans h59
    have hF68 := hF60.up (Or.inr (by omega)) f64 (by rw [z65]; exact Nat.le_refl _)
    have tp69 : M62.2.1 = z0 + 1 := by rw [z65]; exact tp61
    show pl _ _ _ (62, [(0, .ref o), (1, .int x)], [], M62) _
    refine ps_st (S' := (63, [(0, .ref o), (1, .int x)], [.ref o], M62)) rfl rfl rfl ?_
    refine ps_get (S' := (66, [(0, .ref o), (1, .int x)], [.ref z0], M62)) rfl h66 rfl rfl ?_
    refine ps_st (S' := (67, [(0, .ref o), (1, .int x)], [.ref o, .ref z0], M62)) rfl rfl rfl ?_
    refine ps_get (S' := (70, [(0, .ref o), (1, .int x)], [.int (nI c), .ref z0], M62)) rfl h66 rfl rfl ?_
    refine ps_st (S' := (71, [(0, .ref o), (1, .int x)], [.int 2, .int (nI c), .ref z0], M62)) rfl rfl rfl ?_
    refine ps_st (S' := (72, [(0, .ref o), (1, .int x)], [.int ((nI c) + 2), .ref z0], M62)) rfl rfl rfl ?_
    rw [nI_add1 (p := c) (k := 2) (x := 2) rfl (by omega)]
    show pl _ _ _ (_, [(0, .ref o), (1, .int x)], [.int (nI (c + 2)), .ref z0], M62) _
    refine ps_st (S' := (73, [(0, .ref o), (1, .int x)], [.int x, .int (nI (c + 2)), .ref z0], M62)) rfl rfl rfl ?_
    refine ps_st (S' := (75, [(0, .ref o), (1, .int x)], [.int 8, .int x, .int (nI (c + 2)), .ref z0], M62)) rfl rfl rfl ?_
    refine ps_st (S' := (76, [(0, .ref o), (1, .int x)], [.int ((x.toUInt32 >>> ((8 : Int32).toUInt32 &&& Int32.toUInt32 31)).toInt32), .int (nI (c + 2)), .ref z0], M62)) rfl rfl rfl ?_
    refine ps_st (S' := (77, [(0, .ref o), (1, .int x)], [.int (((x.toUInt32 >>> ((8 : Int32).toUInt32 &&& Int32.toUInt32 31)).toInt32).toInt8.toInt32), .int (nI (c + 2)), .ref z0], M62)) rfl rfl rfl ?_
    refine ps_ast rfl h63 (fun M70 i0_77 i1_77 h71 f72 z73 => ?_)
    have h74 := (f72 o (show o ≠ z0 by omega)).trans h66
    have h75 := (f72 cm (show cm ≠ z0 by omega)).trans h67
    have hF76 := hF68.up (Or.inr (by omega)) f72 (by rw [z73]; exact Nat.le_refl _)
    have tp77 : M70.2.1 = z0 + 1 := by rw [z73]; exact tp69
    show pl _ _ _ (78, [(0, .ref o), (1, .int x)], [], M70) _
    refine ps_st (S' := (79, [(0, .ref o), (1, .int x)], [.ref o], M70)) rfl rfl rfl ?_
    refine ps_get (S' := (82, [(0, .ref o), (1, .int x)], [.ref z0], M70)) rfl h74 rfl rfl ?_
    refine ps_st (S' := (83, [(0, .ref o), (1, .int x)], [.ref o, .ref z0], M70)) rfl rfl rfl ?_
    refine ps_get (S' := (86, [(0, .ref o), (1, .int x)], [.int (nI c), .ref z0], M70)) rfl h74 rfl rfl ?_
    refine ps_st (S' := (87, [(0, .ref o), (1, .int x)], [.int 3, .int (nI c), .ref z0], M70)) rfl rfl rfl ?_
    refine ps_st (S' := (88, [(0, .ref o), (1, .int x)], [.int ((nI c) + 3), .ref z0], M70)) rfl rfl rfl ?_
    rw [nI_add1 (p := c) (k := 3) (x := 3) rfl (by omega)]
    show pl _ _ _ (_, [(0, .ref o), (1, .int x)], [.int (nI (c + 3)), .ref z0], M70) _
    refine ps_st (S' := (89, [(0, .ref o), (1, .int x)], [.int x, .int (nI (c + 3)), .ref z0], M70)) rfl rfl rfl ?_
    refine ps_st (S' := (90, [(0, .ref o), (1, .int x)], [.int (x.toInt8.toInt32), .int (nI (c + 3)), .ref z0], M70)) rfl rfl rfl ?_
    refine ps_ast rfl h71 (fun M78 i0_90 i1_90 h79 f80 z81 => ?_)
    have h82 := (f80 o (show o ≠ z0 by omega)).trans h74
    have h83 := (f80 cm (show cm ≠ z0 by omega)).trans h75
    have hF84 := hF76.up (Or.inr (by omega)) f80 (by rw [z81]; exact Nat.le_refl _)
    have tp85 : M78.2.1 = z0 + 1 := by rw [z81]; exact tp77
    show pl _ _ _ (91, [(0, .ref o), (1, .int x)], [], M78) _
    refine ps_st (S' := (92, [(0, .ref o), (1, .int x)], [.ref o], M78)) rfl rfl rfl ?_
    refine ps_st (S' := (93, [(0, .ref o), (1, .int x)], [.ref o, .ref o], M78)) rfl rfl rfl ?_
    refine ps_get (S' := (96, [(0, .ref o), (1, .int x)], [.int (nI c), .ref o], M78)) rfl h82 rfl rfl ?_
    refine ps_st (S' := (97, [(0, .ref o), (1, .int x)], [.int 4, .int (nI c), .ref o], M78)) rfl rfl rfl ?_
    refine ps_st (S' := (98, [(0, .ref o), (1, .int x)], [.int ((nI c) + 4), .ref o], M78)) rfl rfl rfl ?_
    rw [nI_add1 (p := c) (k := 4) (x := 4) rfl (by omega)]
    show pl _ _ _ (_, [(0, .ref o), (1, .int x)], [.int (nI (c + 4)), .ref o], M78) _
    refine ps_put (l' := [.ref z0, .int (nI (c + 4)), .ref fl, kv, .int wp]) rfl h82 rfl rfl (fun M86 h87 f88 z89 => ?_)
    have h90 := (f88 cm (Ne.symm (ob_ar h82 h83))).trans h83
    have h91 := (f88 z0 (show z0 ≠ o by omega)).trans h79
    have hF92 := hF84.up (Or.inl (by simp)) f88 (by rw [z89]; exact Nat.le_refl _)
    have tp93 : M86.2.1 = z0 + 1 := by rw [z89]; exact tp85
    show pl _ _ _ (101, [(0, .ref o), (1, .int x)], [], M86) _
    exact ps_ret rfl rfl (⟨z0, (m * 2), _, by omega, by omega, by omega, by omega, by omega, upd_b (upd_b (upd_b (upd_b q26_b))), fun i hi => (upd4 (by omega) hi).trans (wr4_cg (fun j hj => by rw [q26_c j, if_pos (by omega)])), rfl, h91, h87, hF92, hF92.2⟩)
set_option maxHeartbeats 2000000 in
theorem dk_feed {g : xe_G} {M : mi_H} {m cm o c fl : Nat} {C : Nat → Int32} {kv : Value} {wp : Int32} {x1 x2 x3 x4 x5 : Int32} (h_o : M.1 o = some (ob 11 [.ref cm, .int (nI c), .ref fl, kv, .int wp])) (h_cm : M.1 cm = some (ar .byte m C)) (hfit : ∀ i, fits .byte (.int (C i)) = true) (hgl : g.1 < M.2.1) (hcg : cm ≠ g.1) (hm : m ≤ 1000000) (hm4 : 4 ≤ m) (hc : c ≤ m) (ho : o < M.2.1) (hcl : cm < M.2.1) (hoc : ¬ o = cm) (hc2 : c ≤ 65520) : pt (mT g) 9 [.ref o, .int x1, .int x2, .int x3, .int x4, .int x5] M (fun v M' => (∃ (cm2 m2 : Nat) (C2 : Nat → Int32), (cm2 = cm ∨ M.2.1 ≤ cm2) ∧ (cm2 < M'.2.1) ∧ (c + 20 ≤ m2) ∧ (m2 = m ∨ m2 < 2 * (c + 20)) ∧ (4 ≤ m2) ∧ (∀ i, fits .byte (.int (C2 i)) = true) ∧ (∀ i, i < c + 20 → C2 i = fdC C c x1 x2 x3 x4 x5 i) ∧ v = some (.int (nI (c + 20))) ∧ M'.1 cm2 = some (ar .byte m2 C2) ∧ M'.1 o = some (ob 11 [.ref cm2, .int (nI (c + 20)), .ref fl, kv, .int wp]) ∧ gm [o, cm] M M' ∧ M.2.1 ≤ M'.2.1)) := by
  refine pt_in (b := mb_9 g) rfl (fun kf => ?_)
  show pl (mT g) kf (mb_9 g).2 (0, [(0, .ref o), (1, .int x1), (2, .int x2), (3, .int x3), (4, .int x4), (5, .int x5)], [], M) _
  have hF : gm [o, cm] M M := gm.rf
  obtain ⟨z0, tp0⟩ : ∃ z0, M.2.1 = z0 := ⟨_, rfl⟩
  refine ps_st (S' := (1, [(0, .ref o), (1, .int x1), (2, .int x2), (3, .int x3), (4, .int x4), (5, .int x5)], [.ref o], M)) rfl rfl rfl ?_
  refine ps_get (S' := (4, [(0, .ref o), (1, .int x1), (2, .int x2), (3, .int x3), (4, .int x4), (5, .int x5)], [.int (nI c)], M)) rfl h_o rfl rfl ?_
  refine ps_st (S' := (6, [(0, .ref o), (1, .int x1), (2, .int x2), (3, .int x3), (4, .int x4), (5, .int x5)], [.int 65520, .int (nI c)], M)) rfl rfl rfl ?_
  refine ps_if2 (S1 := (19, [(0, .ref o), (1, .int x1), (2, .int x2), (3, .int x3), (4, .int x4), (5, .int x5)], [], M)) (S2 := (9, [(0, .ref o), (1, .int x1), (2, .int x2), (3, .int x3), (4, .int x4), (5, .int x5)], [], M)) rfl rfl rfl (fun c_6 => ?_) (fun c_6 => ?_)
  · have c_6 : (nI c) ≤ 65520 := of_decide_eq_true c_6
    have n_6 : c ≤ 65520 := (le_nI (p := c) (n := 65520) (by omega) (by decide)).mp c_6
    refine ps_st (S' := (20, [(0, .ref o), (1, .int x1), (2, .int x2), (3, .int x3), (4, .int x4), (5, .int x5)], [.ref o], M)) rfl rfl rfl ?_
    refine ps_st (S' := (21, [(0, .ref o), (1, .int x1), (2, .int x2), (3, .int x3), (4, .int x4), (5, .int x5)], [.int x1, .ref o], M)) rfl rfl rfl ?_
    refine pl_call (a := [.ref o, .int x1]) (rest := []) rfl rfl rfl (dk_takeWord (m := m) (cm := cm) (o := o) (c := c) (fl := fl) (C := C) (kv := kv) (wp := wp) (x := x1) h_o h_cm (hfit) (by omega) (by omega) (by omega) (by omega) (by omega) (by omega) (by omega) (by omega)) (fun v1 M2 q3 => ?_)
    obtain ⟨cm24, m25, C26, q21_a, q21_l, q21_m, q21_n, q21_f, q21_b, q21_c, rfl, h7, h8, f9, tp10⟩ := q3
    obtain ⟨t12, tp13⟩ : ∃ t9, M2.2.1 = t9 := ⟨_, rfl⟩
    rw [tp0, tp13] at tp10
    have hF11 := hF.tr f9 (by intro z hz; simp only [List.mem_cons, List.not_mem_nil, or_false] at hz ⊢; try omega)
    show pl _ _ _ (24, [(0, .ref o), (1, .int x1), (2, .int x2), (3, .int x3), (4, .int x4), (5, .int x5)], [], M2) _
    refine ps_st (S' := (25, [(0, .ref o), (1, .int x1), (2, .int x2), (3, .int x3), (4, .int x4), (5, .int x5)], [.ref o], M2)) rfl rfl rfl ?_
    refine ps_st (S' := (26, [(0, .ref o), (1, .int x1), (2, .int x2), (3, .int x3), (4, .int x4), (5, .int x5)], [.int x2, .ref o], M2)) rfl rfl rfl ?_
    refine pl_call (a := [.ref o, .int x2]) (rest := []) rfl rfl rfl (dk_takeWord (m := m25) (cm := cm24) (o := o) (c := (c + 4)) (fl := fl) (C := C26) (kv := kv) (wp := wp) (x := x2) h8 h7 (q21_b) (by omega) (by omega) (by omega) (by omega) (by omega) (by omega) (by omega) (by omega)) (fun v14 M15 q16 => ?_)
    obtain ⟨cm217, m218, C219, q26_a, q26_l, q26_m, q26_n, q26_f, q26_b, q26_c, rfl, h20, h21, f22, tp23⟩ := q16
    obtain ⟨t25, tp26⟩ : ∃ t9, M15.2.1 = t9 := ⟨_, rfl⟩
    rw [tp13, tp26] at tp23
    have hF24 := hF11.tr f22 (by intro z hz; simp only [List.mem_cons, List.not_mem_nil, or_false] at hz ⊢; try omega)
    show pl _ _ _ (29, [(0, .ref o), (1, .int x1), (2, .int x2), (3, .int x3), (4, .int x4), (5, .int x5)], [], M15) _
    refine ps_st (S' := (30, [(0, .ref o), (1, .int x1), (2, .int x2), (3, .int x3), (4, .int x4), (5, .int x5)], [.ref o], M15)) rfl rfl rfl ?_
    refine ps_st (S' := (31, [(0, .ref o), (1, .int x1), (2, .int x2), (3, .int x3), (4, .int x4), (5, .int x5)], [.int x3, .ref o], M15)) rfl rfl rfl ?_
    refine pl_call (a := [.ref o, .int x3]) (rest := []) rfl rfl rfl (dk_takeWord (m := m218) (cm := cm217) (o := o) (c := (c + 8)) (fl := fl) (C := C219) (kv := kv) (wp := wp) (x := x3) h21 h20 (q26_b) (by omega) (by omega) (by omega) (by omega) (by omega) (by omega) (by omega) (by omega)) (fun v27 M28 q29 => ?_)
    obtain ⟨cm230, m231, C232, q31_a, q31_l, q31_m, q31_n, q31_f, q31_b, q31_c, rfl, h33, h34, f35, tp36⟩ := q29
    obtain ⟨t38, tp39⟩ : ∃ t9, M28.2.1 = t9 := ⟨_, rfl⟩
    rw [tp26, tp39] at tp36
    have hF37 := hF24.tr f35 (by intro z hz; simp only [List.mem_cons, List.not_mem_nil, or_false] at hz ⊢; try omega)
    show pl _ _ _ (34, [(0, .ref o), (1, .int x1), (2, .int x2), (3, .int x3), (4, .int x4), (5, .int x5)], [], M28) _
    refine ps_st (S' := (35, [(0, .ref o), (1, .int x1), (2, .int x2), (3, .int x3), (4, .int x4), (5, .int x5)], [.ref o], M28)) rfl rfl rfl ?_
    refine ps_st (S' := (37, [(0, .ref o), (1, .int x1), (2, .int x2), (3, .int x3), (4, .int x4), (5, .int x5)], [.int x4, .ref o], M28)) rfl rfl rfl ?_
    refine pl_call (a := [.ref o, .int x4]) (rest := []) rfl rfl rfl (dk_takeWord (m := m231) (cm := cm230) (o := o) (c := (c + 12)) (fl := fl) (C := C232) (kv := kv) (wp := wp) (x := x4) h34 h33 (q31_b) (by omega) (by omega) (by omega) (by omega) (by omega) (by omega) (by omega) (by omega)) (fun v40 M41 q42 => ?_)
    obtain ⟨cm243, m244, C245, q37_a, q37_l, q37_m, q37_n, q37_f, q37_b, q37_c, rfl, h46, h47, f48, tp49⟩ := q42
    obtain ⟨t51, tp52⟩ : ∃ t9, M41.2.1 = t9 := ⟨_, rfl⟩
    rw [tp39, tp52] at tp49
    have hF50 := hF37.tr f48 (by intro z hz; simp only [List.mem_cons, List.not_mem_nil, or_false] at hz ⊢; try omega)
    show pl _ _ _ (40, [(0, .ref o), (1, .int x1), (2, .int x2), (3, .int x3), (4, .int x4), (5, .int x5)], [], M41) _
    refine ps_st (S' := (41, [(0, .ref o), (1, .int x1), (2, .int x2), (3, .int x3), (4, .int x4), (5, .int x5)], [.ref o], M41)) rfl rfl rfl ?_
    refine ps_st (S' := (43, [(0, .ref o), (1, .int x1), (2, .int x2), (3, .int x3), (4, .int x4), (5, .int x5)], [.int x5, .ref o], M41)) rfl rfl rfl ?_
    refine pl_call (a := [.ref o, .int x5]) (rest := []) rfl rfl rfl (dk_takeWord (m := m244) (cm := cm243) (o := o) (c := (c + 16)) (fl := fl) (C := C245) (kv := kv) (wp := wp) (x := x5) h47 h46 (q37_b) (by omega) (by omega) (by omega) (by omega) (by omega) (by omega) (by omega) (by omega)) (fun v53 M54 q55 => ?_)
    obtain ⟨cm256, m257, C258, q43_a, q43_l, q43_m, q43_n, q43_f, q43_b, q43_c, rfl, h59, h60, f61, tp62⟩ := q55
    obtain ⟨t64, tp65⟩ : ∃ t9, M54.2.1 = t9 := ⟨_, rfl⟩
    rw [tp52, tp65] at tp62
    have hF63 := hF50.tr f61 (by intro z hz; simp only [List.mem_cons, List.not_mem_nil, or_false] at hz ⊢; try omega)
    show pl _ _ _ (46, [(0, .ref o), (1, .int x1), (2, .int x2), (3, .int x3), (4, .int x4), (5, .int x5)], [], M54) _
    refine ps_st (S' := (47, [(0, .ref o), (1, .int x1), (2, .int x2), (3, .int x3), (4, .int x4), (5, .int x5)], [.ref o], M54)) rfl rfl rfl ?_
    refine ps_get (S' := (50, [(0, .ref o), (1, .int x1), (2, .int x2), (3, .int x3), (4, .int x4), (5, .int x5)], [.int (nI (c + 20))], M54)) rfl h60 rfl rfl ?_
    exact ps_reti rfl (⟨cm256, m257, _, by omega, by omega, by omega, by omega, by omega, q43_b, fun i hi => (q43_c i hi).trans (wr4_cg (fun j hj => (q37_c j hj).trans (wr4_cg (fun j hj => (q31_c j hj).trans (wr4_cg (fun j hj => (q26_c j hj).trans (wr4_cg (fun j hj => q21_c j hj)))))))), rfl, h59, h60, hF63, hF63.2⟩)
  · have c_6 : ¬ ((nI c) ≤ 65520) := of_decide_eq_false c_6
    have n_6 : ¬ (c ≤ 65520) := fun h9 => c_6 ((le_nI (p := c) (n := 65520) (by omega) (by decide)).mpr h9)
    exact absurd hc2 (by omega)
set_option maxHeartbeats 2000000 in
theorem dk_end {g : xe_G} {M : mi_H} {m cm o c fl k : Nat} {C : Nat → Int32} {kv : Value} {wp : Int32} (h_o : M.1 o = some (ob 11 [.ref cm, .int (nI c), .ref fl, kv, .int wp])) (h_cm : M.1 cm = some (ar .byte m C)) (hfit : ∀ i, fits .byte (.int (C i)) = true) (hgl : g.1 < M.2.1) (hcg : cm ≠ g.1) (hm : m ≤ 1000000) (hk : k ≤ c) (hcm : c < m) (ho : o < M.2.1) (hcl : cm < M.2.1) (hoc : ¬ o = cm) : pt (mT g) 7 [.ref o, .int (nI k)] M (fun v M' => (∃ (F2 : Nat → Int32), (∀ i, fits .byte (.int (F2 i)) = true) ∧ (∀ i, F2 i = if i < k then C i else 0) ∧ v = some (.int (nI k)) ∧ M'.1 M.2.1 = some (ar .byte k F2) ∧ M'.1 o = some (ob 11 [.ref cm, .int (nI 0), .ref (M.2.1), kv, .int wp]) ∧ gm [o] M M' ∧ M'.2.1 = M.2.1 + 1)) := by
  refine pt_in (b := mb_7 g) rfl (fun kf => ?_)
  show pl (mT g) kf (mb_7 g).2 (0, [(0, .ref o), (1, .int (nI k))], [], M) _
  have hF : gm [o] M M := gm.rf
  obtain ⟨z0, tp0⟩ : ∃ z0, M.2.1 = z0 := ⟨_, rfl⟩
  refine ps_st (S' := (1, [(0, .ref o), (1, .int (nI k))], [.int (nI k)], M)) rfl rfl rfl ?_
  refine ps_if (S1 := (12, [(0, .ref o), (1, .int (nI k))], [], M)) (S2 := (4, [(0, .ref o), (1, .int (nI k))], [], M)) rfl rfl rfl (fun c_1 => ?_) (fun c_1 => ?_)
  · exact absurd (of_decide_eq_true c_1) (show ¬ ((nI k) < 0) from fun h9 => absurd ((lt_nI (p := k) (n := 0) (by omega) (by decide)).mp h9) (by omega))
  refine ps_st (S' := (5, [(0, .ref o), (1, .int (nI k))], [.int (nI k)], M)) rfl rfl rfl ?_
  refine ps_st (S' := (6, [(0, .ref o), (1, .int (nI k))], [.ref o, .int (nI k)], M)) rfl rfl rfl ?_
  refine ps_get (S' := (9, [(0, .ref o), (1, .int (nI k))], [.int (nI c), .int (nI k)], M)) rfl h_o rfl rfl ?_
  refine ps_if2 (S1 := (22, [(0, .ref o), (1, .int (nI k))], [], M)) (S2 := (12, [(0, .ref o), (1, .int (nI k))], [], M)) rfl rfl rfl (fun c_9 => ?_) (fun c_9 => ?_)
  · have c_9 : (nI k) ≤ (nI c) := of_decide_eq_true c_9
    have n_9 : k ≤ c := (le_nI (p := k) (n := c) (by omega) (by omega)).mp c_9
    refine ps_st (S' := (23, [(0, .ref o), (1, .int (nI k))], [.ref o], M)) rfl rfl rfl ?_
    refine ps_st (S' := (24, [(0, .ref o), (1, .int (nI k))], [.ref o, .ref o], M)) rfl rfl rfl ?_
    refine ps_get (S' := (27, [(0, .ref o), (1, .int (nI k))], [.ref cm, .ref o], M)) rfl h_o rfl rfl ?_
    refine ps_st (S' := (28, [(0, .ref o), (1, .int (nI k))], [.int (nI k), .ref cm, .ref o], M)) rfl rfl rfl ?_
    refine pl_call (a := [.ref cm, .int (nI k)]) (rest := [.ref o]) rfl rfl rfl (dk_copyOf (m := m) (k := k) (cm := cm) (C := C) h_cm (hfit) (by omega) (hcg) (by omega) (by omega) (by omega) (by omega)) (fun v1 M2 q3 => ?_)
    obtain ⟨C24, q28_b, q28_c, rfl, h5, f6, tp7⟩ := q3
    rw [show Value.ref M.2.1 = Value.ref z0 from congrArg Value.ref tp0]
    rw [tp0] at h5 tp7
    have h8 := (f6.1 o (by omega) (by simp)).trans h_o
    have h9 := (f6.1 cm (by omega) (by simp)).trans h_cm
    have hF10 := hF.tr f6 (by intro z hz; simp only [List.mem_cons, List.not_mem_nil, or_false] at hz ⊢; try omega)
    show pl _ _ _ (31, [(0, .ref o), (1, .int (nI k))], [.ref z0, .ref o], M2) _
    refine ps_put (l' := [.ref cm, .int (nI c), .ref z0, kv, .int wp]) rfl h8 rfl rfl (fun M11 h12 f13 z14 => ?_)
    have h15 := (f13 cm (Ne.symm (ob_ar h8 h9))).trans h9
    have h16 := (f13 z0 (show z0 ≠ o by omega)).trans h5
    have hF17 := hF10.up (Or.inl (by simp)) f13 (by rw [z14]; exact Nat.le_refl _)
    have tp18 : M11.2.1 = z0 + 1 := by rw [z14]; exact tp7
    show pl _ _ _ (34, [(0, .ref o), (1, .int (nI k))], [], M11) _
    refine ps_st (S' := (35, [(0, .ref o), (1, .int (nI k))], [.ref o], M11)) rfl rfl rfl ?_
    refine ps_st (S' := (36, [(0, .ref o), (1, .int (nI k))], [.int 0, .ref o], M11)) rfl rfl rfl ?_
    refine ps_put (l' := [.ref cm, .int 0, .ref z0, kv, .int wp]) rfl h12 rfl rfl (fun M19 h20 f21 z22 => ?_)
    have h23 := (f21 cm (Ne.symm (ob_ar h12 h15))).trans h15
    have h24 := (f21 z0 (show z0 ≠ o by omega)).trans h16
    have hF25 := hF17.up (Or.inl (by simp)) f21 (by rw [z22]; exact Nat.le_refl _)
    have tp26 : M19.2.1 = z0 + 1 := by rw [z22]; exact tp18
    show pl _ _ _ (39, [(0, .ref o), (1, .int (nI k))], [], M19) _
    refine ps_st (S' := (40, [(0, .ref o), (1, .int (nI k))], [.int (nI k)], M19)) rfl rfl rfl ?_
    exact ps_reti rfl (⟨_, q28_b, fun i => (q28_c i).trans (end_if (by omega)), rfl, by rw [tp0]; exact h24, h20, hF25, by rw [tp0]; exact tp26⟩)
  · have c_9 : ¬ ((nI k) ≤ (nI c)) := of_decide_eq_false c_9
    have n_9 : ¬ (k ≤ c) := fun h9 => c_9 ((le_nI (p := k) (n := c) (by omega) (by omega)).mpr h9)
    exact absurd hk (by omega)
set_option maxHeartbeats 1000000 in
theorem dk_place {g : xe_G} {M : mi_H} {cm o fl : Nat} {nc : Int32} {kv : Value} {wp : Int32} (h_o : M.1 o = some (ob 11 [.ref cm, .int nc, .ref fl, kv, .int wp]))  : pt (mT g) 16 [.ref o] M (fun v M' => (v = some (.int wp) ∧ M = M')) := by
  refine pt_in (b := mb_16 g) rfl (fun kf => ?_)
  show pl (mT g) kf (mb_16 g).2 (0, [(0, .ref o)], [], M) _
  refine ps_st (S' := (1, [(0, .ref o)], [.ref o], M)) rfl rfl rfl ?_
  refine ps_get (S' := (4, [(0, .ref o)], [.int wp], M)) rfl h_o rfl rfl ?_
  exact ps_reti rfl (⟨rfl, rfl⟩)
end
section
/-! what a run leaves as it was (laid by wip/p4/fr.py) -/
section FRA
/-- cells stay, but for objects of the classes W -/
def frC (W : List Nat) (M M' : mi_H) : Prop := (∀ z, z < M.2.1 → (∀ o, M.1 z = some (.inr o) → o.1 ∉ W) → M'.1 z = M.1 z) ∧ M.2.1 ≤ M'.2.1
theorem frC.rf {W : List Nat} {M : mi_H} : frC W M M := ⟨fun _ _ _ => rfl, Nat.le_refl _⟩
theorem frC.tr {W : List Nat} {M M1 M2 : mi_H} (h : frC W M M1) (h' : frC W M1 M2) : frC W M M2 :=
  ⟨fun z hz ho => by
    have e := h.1 z hz ho
    exact (h'.1 z (Nat.lt_of_lt_of_le hz h.2) (fun o h9 => ho o (by rw [← e]; exact h9))).trans e, Nat.le_trans h.2 h'.2⟩
theorem frC.wide {W W' : List Nat} {M M' : mi_H} (h : frC W M M') (hs : ∀ k, k ∈ W → k ∈ W') : frC W' M M' := ⟨fun z hz ho => h.1 z hz (fun o h9 q => ho o h9 (hs _ q)), h.2⟩
theorem frC.obj {W : List Nat} {M M' : mi_H} {a ci : Nat} {l : List Value} (h : frC W M M') (hl : a < M.2.1) (ha : M.1 a = some (ob ci l)) (hc : ci ∉ W) : M'.1 a = some (ob ci l) :=
  (h.1 a hl (fun o h9 => by rw [ha] at h9; cases h9; exact hc)).trans ha
theorem frC.row {W : List Nat} {M M' : mi_H} {a : Nat} {r : FieldType × Nat × (Nat → Option Value)} (h : frC W M M') (hl : a < M.2.1) (ha : M.1 a = some (.inl r)) : M'.1 a = some (.inl r) :=
  (h.1 a hl (fun o h9 => by rw [ha] at h9; cases h9)).trans ha
variable {W L : List Nat}
end FRA
end
section
/-! a run beside other cells is the same run, and leaves them as they were (laid by wip/p4/sep.py) -/
section SPA
/-- M2 is M with the cells F beside it -/
def spR (F : Nat → Option mi_C) (M M2 : mi_H) : Prop := M2.2 = M.2 ∧ (∀ a, F a ≠ none → M.1 a = none ∧ a < M.2.1) ∧ ∀ a, M2.1 a = (match F a with | some c => some c | none => M.1 a)
variable {F : Nat → Option mi_C} {M M2 : mi_H}
theorem spR.no {a : Nat} {c : mi_C} (h : spR F M M2) (ha : M.1 a = some c) : F a = none := by
  cases hf : F a with
  | none => rfl
  | some c' =>
    have := (h.2.1 a (by rw [hf]; exact fun e => by cases e)).1
    rw [ha] at this
    cases this
theorem spR.get {a : Nat} {c : mi_C} (h : spR F M M2) (ha : M.1 a = some c) : M2.1 a = some c := by
  rw [h.2.2 a, h.no ha]
  exact ha
theorem spR.old {a : Nat} {c : mi_C} (h : spR F M M2) (ha : F a = some c) : M2.1 a = some c := by
  rw [h.2.2 a, ha]
theorem spR.one {M3 : mi_H} (h : spR F M M2) (h' : spR F M M3) : M3 = M2 := by
  have e1 : M3.1 = M2.1 := by
    funext a
    rw [h.2.2 a, h'.2.2 a]
  have e2 : M3.2 = M2.2 := by rw [h.1, h'.1]
  exact Prod.ext e1 e2
theorem spR.up {a : Nat} {c c' : mi_C} (h : spR F M M2) (ha : M.1 a = some c) : spR F (va_up M.1 a (some c'), M.2) (va_up M2.1 a (some c'), M2.2) := by
  have hn := h.no ha
  refine ⟨h.1, fun b hb => ?_, fun b => ?_⟩
  · have hne : b ≠ a := fun e => hb (by rw [e]; exact hn)
    refine ⟨?_, (h.2.1 b hb).2⟩
    show va_up M.1 a (some c') b = none
    rw [va_up, if_neg hne]
    exact (h.2.1 b hb).1
  · show va_up M2.1 a (some c') b = _
    by_cases e : b = a
    · subst e
      rw [hn]
      show va_up M2.1 b (some c') b = va_up M.1 b (some c') b
      rw [va_up, va_up, if_pos rfl, if_pos rfl]
    · rw [va_up, if_neg e, h.2.2 b]
      show _ = (match F b with | some c => some c | none => va_up M.1 a (some c') b)
      rw [va_up, if_neg e]
theorem spR.new {c' : mi_C} {k : Nat} (h : spR F M M2) : spR F (va_up M.1 M.2.1 (some c'), M.2.1 + 1, M.2.2 + k) (va_up M2.1 M2.2.1 (some c'), M2.2.1 + 1, M2.2.2 + k) := by
  have e1 : M2.2.1 = M.2.1 := by rw [h.1]
  have e2 : M2.2.2 = M.2.2 := by rw [h.1]
  rw [e1, e2]
  have hn : F M.2.1 = none := by
    cases hf : F M.2.1 with
    | none => rfl
    | some c => exact absurd (h.2.1 _ (by rw [hf]; exact fun e => by cases e)).2 (Nat.lt_irrefl _)
  refine ⟨rfl, fun b hb => ?_, fun b => ?_⟩
  · have h1 := h.2.1 b hb
    have hne : b ≠ M.2.1 := Nat.ne_of_lt h1.2
    refine ⟨?_, Nat.lt_succ_of_lt h1.2⟩
    show va_up M.1 M.2.1 (some c') b = none
    rw [va_up, if_neg hne]
    exact h1.1
  · show va_up M2.1 M.2.1 (some c') b = _
    by_cases e : b = M.2.1
    · subst e
      rw [hn]
      show va_up M2.1 M.2.1 (some c') M.2.1 = va_up M.1 M.2.1 (some c') M.2.1
      rw [va_up, va_up, if_pos rfl, if_pos rfl]
    · rw [va_up, if_neg e, h.2.2 b]
      show _ = (match F b with | some c => some c | none => va_up M.1 M.2.1 (some c') b)
      rw [va_up, if_neg e]
theorem spR.gf {a ci k : Nat} {v : Value} (h : spR F M M2) (hv : mi_gf M a ci k = some v) : mi_gf M2 a ci k = some v := by
  unfold mi_gf at hv ⊢
  cases hc : M.1 a with
  | none => rw [hc] at hv; cases hv
  | some c => rw [h.get hc]; rw [hc] at hv; exact hv
theorem spR.ga {a : Nat} {ty : FieldType} {r : Nat × (Nat → Option Value)} (h : spR F M M2) (hv : mi_ga M a ty = some r) : mi_ga M2 a ty = some r := by
  unfold mi_ga at hv ⊢
  cases hc : M.1 a with
  | none => rw [hc] at hv; cases hv
  | some c => rw [h.get hc]; rw [hc] at hv; exact hv
theorem ga_in {a : Nat} {ty : FieldType} {r : Nat × (Nat → Option Value)} (hv : mi_ga M a ty = some r) : ∃ c, M.1 a = some c := by
  unfold mi_ga at hv
  cases hc : M.1 a with
  | none => rw [hc] at hv; cases hv
  | some c => exact ⟨c, rfl⟩
theorem spR.okv {C : String} {v : Nat} (h : spR F M M2) (hv : mi_ok M C v = true) : mi_ok M2 C v = true := by
  unfold mi_ok at hv ⊢
  cases hc : M.1 v with
  | none => rw [hc] at hv; cases hv
  | some c => rw [h.get hc]; rw [hc] at hv; exact hv
theorem spR.okc {k : Option Nat} {na : Nat} {pc : Nat} {lv : List (Nat × Value)} {st : List Value} (h : spR F M M2) (hv : mi_okc k na (pc, lv, st, M) = true) : mi_okc k na (pc, lv, st, M2) = true := by
  unfold mi_okc at hv ⊢
  dsimp only at hv ⊢
  rw [Bool.and_eq_true] at hv ⊢
  refine ⟨hv.1, ?_⟩
  have h2 := hv.2
  cases k with
  | none => rfl
  | some ci =>
    dsimp only at h2 ⊢
    cases hs : (st.take na).reverse with
    | nil => rw [hs] at h2; cases h2
    | cons v r =>
      rw [hs] at h2
      cases v with
      | ref b =>
        dsimp only at h2 ⊢
        cases hc : M.1 b with
        | none => rw [hc] at h2; cases h2
        | some c => rw [h.get hc]; rw [hc] at h2; exact h2
      | _ => cases h2
def spO (o : mi_O) : Prop := ∀ F pc lv st M S' M2, o (pc, lv, st, M) = some S' → spR F M M2 → ∃ M2', o (pc, lv, st, M2) = some (S'.1, S'.2.1, S'.2.2.1, M2') ∧ spR F S'.2.2.2 M2'
def spP (L : List Nat) : Nat → mi_N → Prop := fun _ e => match e with
  | .inl o => spO o
  | .inr (.inl c) => L.elem c.1 = true
  | .inr (.inr _) => True
theorem nk_sp {kl : Nat → Option (List Nat)} {pc : Nat} {lv : List (Nat × Value)} {st : List Value} {M1 M2 : mi_H} : ∃ lv', mi_nk kl (pc, lv, st, M1) = (pc, lv', st, M1) ∧ mi_nk kl (pc, lv, st, M2) = (pc, lv', st, M2) := by
  unfold mi_nk
  dsimp only
  split
  · exact ⟨_, rfl, rfl⟩
  · exact ⟨_, rfl, rfl⟩
theorem sp_loop {L : List Nat} {tb : mi_B} {call : Nat → List Value → mi_H → Option mi_R} (hb : mt_all (spP L) tb.1) (hc : ∀ y a M r F M2, L.elem y = true → call y a M = some r → spR F M M2 → ∃ M2', call y a M2 = some (r.1, M2') ∧ spR F r.2 M2') : ∀ n pc lv st M r F M2, mi_loop tb call n (pc, lv, st, M) = some r → spR F M M2 → ∃ M2', mi_loop tb call n (pc, lv, st, M2) = some (r.1, M2') ∧ spR F r.2 M2' := by
  intro n
  induction n with
  | zero => intro pc lv st M r F M2 h; cases h
  | succ n ih =>
    intro pc lv st M r F M2 h hs
    unfold mi_loop at h ⊢
    dsimp only at h ⊢
    cases he : tb.1 pc with
    | none => rw [he] at h; cases h
    | some e =>
      rw [he] at h
      have hp := hb pc e he
      rcases e with o | c | f
      · dsimp only at h ⊢
        cases ho : o (pc, lv, st, M) with
        | none => rw [ho] at h; cases h
        | some S' =>
          rw [ho] at h
          obtain ⟨p1, l1, s1, m1⟩ := S'
          obtain ⟨M3, h3, h4⟩ := hp F pc lv st M _ M2 ho hs
          dsimp only at h h3 h4 ⊢
          rw [h3]
          dsimp only
          obtain ⟨l2, k1, k2⟩ := nk_sp (kl := tb.2) (pc := p1) (lv := l1) (st := s1) (M1 := m1) (M2 := M3)
          rw [k1] at h
          rw [k2]
          exact ih _ _ _ _ _ _ _ h h4
      · dsimp only at h ⊢
        cases hk : mi_okc c.2.2 c.2.1 (pc, lv, st, M) with
        | false => rw [hk] at h; cases h
        | true =>
          rw [hk] at h
          rw [hs.okc hk]
          dsimp only at h ⊢
          cases hr : call c.1 (st.take c.2.1).reverse M with
          | none => rw [hr] at h; cases h
          | some r1 =>
            rw [hr] at h
            obtain ⟨M3, h3, h4⟩ := hc _ _ _ _ _ _ hp hr hs
            rw [h3]
            dsimp only at h ⊢
            obtain ⟨l2, k1, k2⟩ := nk_sp (kl := tb.2) (pc := pc + 3) (lv := lv) (st := r1.1.toList ++ st.drop c.2.1) (M1 := r1.2) (M2 := M3)
            rw [k1] at h
            rw [k2]
            exact ih _ _ _ _ _ _ _ h h4
      · dsimp only at h ⊢
        cases hf : f st with
        | none => rw [hf] at h; cases h
        | some v =>
          rw [hf] at h
          cases h
          exact ⟨M2, rfl, hs⟩
theorem sp_run {L : List Nat} {T : Nat → Option (Nat × mi_B)} (hT : ∀ y b, L.elem y = true → T y = some b → mt_all (spP L) b.2.1) (n : Nat) : ∀ d y a M r F M2, L.elem y = true → mi_run T n d y a M = some r → spR F M M2 → ∃ M2', mi_run T n d y a M2 = some (r.1, M2') ∧ spR F r.2 M2' := by
  intro d
  induction d with
  | zero => intro y a M r F M2 _ h; cases h
  | succ d ih =>
    intro y a M r F M2 hy h hs
    unfold mi_run at h ⊢
    cases hb : T y with
    | none => rw [hb] at h; cases h
    | some b =>
      rw [hb] at h
      dsimp only at h ⊢
      cases hd : decide ((lg_sl a).length ≤ b.1) with
      | false => rw [hd] at h; cases h
      | true =>
        rw [hd] at h
        exact sp_loop (hT y b hy hb) (fun y a M r F M2 hy hr hs => ih y a M r F M2 hy hr hs) n _ _ _ _ _ _ _ h hs
/-- a safe run beside other cells -/
theorem mt.sep {L : List Nat} {T : Nat → Option (Nat × mi_B)} {d y : Nat} {a : List Value} {Q : Option Value → mi_H → Prop} (hT : ∀ y b, L.elem y = true → T y = some b → mt_all (spP L) b.2.1) (hy : L.elem y = true) (h : mt T d y a M Q) (hs : spR F M M2) : mt T d y a M2 (fun v M2' => ∃ M', Q v M' ∧ spR F M' M2') := by
  obtain ⟨r, ⟨n0, hr⟩, hq⟩ := h
  obtain ⟨M3, h1, h2⟩ := sp_run hT n0 d y a M r F M2 hy (hr n0 (Nat.le_refl _)) hs
  refine ⟨(r.1, M3), ⟨n0, fun n hn => ?_⟩, r.2, hq, h2⟩
  obtain ⟨M4, h3, h4⟩ := sp_run hT n d y a M r F M2 hy (hr n hn) hs
  rw [h3, h2.one h4]

theorem sp_aast {C : String} : spO (o_aast C) := by
  intro F pc lv st M S' M2 h hs
  unfold o_aast at h ⊢
  dsimp only at h ⊢
  split at h
  · rename_i v i a st'
    cases hv : mi_ga M a (.object C) with
    | none => rw [hv] at h; cases h
    | some r =>
      rw [hv] at h
      dsimp only at h ⊢
      rw [hs.ga hv]
      dsimp only
      obtain ⟨c, hc⟩ := ga_in hv
      split at h
      · cases h
      · rename_i hi
        rw [if_neg hi]
        split at h
        · rename_i hk
          cases h
          rw [if_pos (hs.okv hk)]
          exact ⟨_, rfl, hs.up hc⟩
        · cases h
  · cases h
theorem sp_ald {ty : FieldType} : spO (o_ald ty) := by
  intro F pc lv st M S' M2 h hs
  unfold o_ald at h ⊢
  dsimp only at h ⊢
  split at h
  · rename_i i a st'
    cases hv : mi_ga M a ty with
    | none => rw [hv] at h; cases h
    | some r =>
      rw [hv] at h
      dsimp only at h ⊢
      rw [hs.ga hv]
      dsimp only
      split at h
      · cases h
      · rename_i hi
        rw [if_neg hi]
        cases hr : r.2 i.toNatClampNeg with
        | none => rw [hr] at h; cases h
        | some v =>
          rw [hr] at h
          cases h
          exact ⟨M2, rfl, hs⟩
  · cases h
theorem sp_alen {ty : FieldType} : spO (o_alen ty) := by
  intro F pc lv st M S' M2 h hs
  unfold o_alen at h ⊢
  dsimp only at h ⊢
  split at h
  · rename_i a st'
    cases hv : mi_ga M a ty with
    | none => rw [hv] at h; cases h
    | some r =>
      rw [hv] at h
      cases h
      dsimp only
      rw [hs.ga hv]
      exact ⟨M2, rfl, hs⟩
  · cases h
theorem sp_aload {i n : Nat} : spO (o_aload i n) := by
  intro F pc lv st M S' M2 h hs
  unfold o_aload at h ⊢
  dsimp only at h ⊢
  repeat' split at h
  all_goals first | (cases h; done) | (cases h; exact ⟨M2, rfl, hs⟩) | (cases h; refine ⟨M2, ?_, hs⟩; first | (rw [if_pos (by assumption)]; done) | (rw [if_neg (by assumption)]; done) | (simp only [*]; done))
theorem sp_anew {C : String} : spO (o_anew C) := by
  intro F pc lv st M S' M2 h hs
  unfold o_anew at h ⊢
  dsimp only at h ⊢
  have e : M2.2.1 = M.2.1 := by rw [hs.1]
  split at h
  · rename_i n st'
    split at h
    · cases h
    · rename_i hi
      cases h
      dsimp only
      rw [if_neg hi]
      refine ⟨_, ?_, hs.new⟩
      rw [e]
  · cases h
theorem sp_ast {ty : FieldType} {nar : Int32 → Int32} : spO (o_ast ty nar) := by
  intro F pc lv st M S' M2 h hs
  unfold o_ast at h ⊢
  dsimp only at h ⊢
  split at h
  · rename_i x i a st'
    cases hv : mi_ga M a ty with
    | none => rw [hv] at h; cases h
    | some r =>
      rw [hv] at h
      dsimp only at h ⊢
      rw [hs.ga hv]
      dsimp only
      obtain ⟨c, hc⟩ := ga_in hv
      split at h
      · cases h
      · rename_i hi
        cases h
        rw [if_neg hi]
        exact ⟨_, rfl, hs.up hc⟩
  · cases h
theorem sp_asto {i n : Nat} : spO (o_asto i n) := by
  intro F pc lv st M S' M2 h hs
  unfold o_asto at h ⊢
  dsimp only at h ⊢
  repeat' split at h
  all_goals first | (cases h; done) | (cases h; exact ⟨M2, rfl, hs⟩) | (cases h; refine ⟨M2, ?_, hs⟩; first | (rw [if_pos (by assumption)]; done) | (rw [if_neg (by assumption)]; done) | (simp only [*]; done))
theorem sp_bin {f : Int32 → Int32 → Int32} {n : Nat} : spO (o_bin f n) := by
  intro F pc lv st M S' M2 h hs
  unfold o_bin at h ⊢
  dsimp only at h ⊢
  repeat' split at h
  all_goals first | (cases h; done) | (cases h; exact ⟨M2, rfl, hs⟩) | (cases h; refine ⟨M2, ?_, hs⟩; first | (rw [if_pos (by assumption)]; done) | (rw [if_neg (by assumption)]; done) | (simp only [*]; done))
theorem sp_div {f : Int32 → Int32 → Int32} : spO (o_div f) := by
  intro F pc lv st M S' M2 h hs
  unfold o_div at h ⊢
  dsimp only at h ⊢
  repeat' split at h
  all_goals first | (cases h; done) | (cases h; exact ⟨M2, rfl, hs⟩) | (cases h; refine ⟨M2, ?_, hs⟩; first | (rw [if_pos (by assumption)]; done) | (rw [if_neg (by assumption)]; done) | (simp only [*]; done))
theorem sp_drop {n : Nat} : spO (o_drop n) := by
  intro F pc lv st M S' M2 h hs
  unfold o_drop at h ⊢
  dsimp only at h ⊢
  repeat' split at h
  all_goals first | (cases h; done) | (cases h; exact ⟨M2, rfl, hs⟩) | (cases h; refine ⟨M2, ?_, hs⟩; first | (rw [if_pos (by assumption)]; done) | (rw [if_neg (by assumption)]; done) | (simp only [*]; done))
theorem sp_dup  : spO (o_dup ) := by
  intro F pc lv st M S' M2 h hs
  unfold o_dup at h ⊢
  dsimp only at h ⊢
  repeat' split at h
  all_goals first | (cases h; done) | (cases h; exact ⟨M2, rfl, hs⟩) | (cases h; refine ⟨M2, ?_, hs⟩; first | (rw [if_pos (by assumption)]; done) | (rw [if_neg (by assumption)]; done) | (simp only [*]; done))
theorem sp_get {ci k : Nat} : spO (o_get ci k) := by
  intro F pc lv st M S' M2 h hs
  unfold o_get at h ⊢
  dsimp only at h ⊢
  split at h
  · rename_i a st'
    cases hv : mi_gf M a ci k with
    | none => rw [hv] at h; cases h
    | some v =>
      rw [hv] at h
      cases h
      dsimp only
      rw [hs.gf hv]
      exact ⟨M2, rfl, hs⟩
  · cases h
theorem sp_goto {t : Nat} : spO (o_goto t) := by
  intro F pc lv st M S' M2 h hs
  unfold o_goto at h ⊢
  dsimp only at h ⊢
  repeat' split at h
  all_goals first | (cases h; done) | (cases h; exact ⟨M2, rfl, hs⟩) | (cases h; refine ⟨M2, ?_, hs⟩; first | (rw [if_pos (by assumption)]; done) | (rw [if_neg (by assumption)]; done) | (simp only [*]; done))
theorem sp_if {f : Int32 → Bool} {t : Nat} : spO (o_if f t) := by
  intro F pc lv st M S' M2 h hs
  unfold o_if at h ⊢
  dsimp only at h ⊢
  repeat' split at h
  all_goals first | (cases h; done) | (cases h; exact ⟨M2, rfl, hs⟩) | (cases h; refine ⟨M2, ?_, hs⟩; first | (rw [if_pos (by assumption)]; done) | (rw [if_neg (by assumption)]; done) | (simp only [*]; done))
theorem sp_if2 {f : Int32 → Int32 → Bool} {t : Nat} : spO (o_if2 f t) := by
  intro F pc lv st M S' M2 h hs
  unfold o_if2 at h ⊢
  dsimp only at h ⊢
  repeat' split at h
  all_goals first | (cases h; done) | (cases h; exact ⟨M2, rfl, hs⟩) | (cases h; refine ⟨M2, ?_, hs⟩; first | (rw [if_pos (by assumption)]; done) | (rw [if_neg (by assumption)]; done) | (simp only [*]; done))
theorem sp_iinc {i : Nat} {n : Int32} : spO (o_iinc i n) := by
  intro F pc lv st M S' M2 h hs
  unfold o_iinc at h ⊢
  dsimp only at h ⊢
  repeat' split at h
  all_goals first | (cases h; done) | (cases h; exact ⟨M2, rfl, hs⟩) | (cases h; refine ⟨M2, ?_, hs⟩; first | (rw [if_pos (by assumption)]; done) | (rw [if_neg (by assumption)]; done) | (simp only [*]; done))
theorem sp_iload {i n : Nat} : spO (o_iload i n) := by
  intro F pc lv st M S' M2 h hs
  unfold o_iload at h ⊢
  dsimp only at h ⊢
  repeat' split at h
  all_goals first | (cases h; done) | (cases h; exact ⟨M2, rfl, hs⟩) | (cases h; refine ⟨M2, ?_, hs⟩; first | (rw [if_pos (by assumption)]; done) | (rw [if_neg (by assumption)]; done) | (simp only [*]; done))
theorem sp_isto {i n : Nat} : spO (o_isto i n) := by
  intro F pc lv st M S' M2 h hs
  unfold o_isto at h ⊢
  dsimp only at h ⊢
  repeat' split at h
  all_goals first | (cases h; done) | (cases h; exact ⟨M2, rfl, hs⟩) | (cases h; refine ⟨M2, ?_, hs⟩; first | (rw [if_pos (by assumption)]; done) | (rw [if_neg (by assumption)]; done) | (simp only [*]; done))
theorem sp_mm {f : Int32 → Int32 → Int32} : spO (o_mm f) := by
  intro F pc lv st M S' M2 h hs
  unfold o_mm at h ⊢
  dsimp only at h ⊢
  repeat' split at h
  all_goals first | (cases h; done) | (cases h; exact ⟨M2, rfl, hs⟩) | (cases h; refine ⟨M2, ?_, hs⟩; first | (rw [if_pos (by assumption)]; done) | (rw [if_neg (by assumption)]; done) | (simp only [*]; done))
theorem sp_new {ci N : Nat} {ds : List Value} : spO (o_new ci N ds) := by
  intro F pc lv st M S' M2 h hs
  unfold o_new at h ⊢
  cases h
  have e : M2.2.1 = M.2.1 := by rw [hs.1]
  refine ⟨_, ?_, hs.new⟩
  dsimp only
  rw [e]
theorem sp_newa {ty : FieldType} : spO (o_newa ty) := by
  intro F pc lv st M S' M2 h hs
  unfold o_newa at h ⊢
  dsimp only at h ⊢
  have e : M2.2.1 = M.2.1 := by rw [hs.1]
  split at h
  · rename_i n st'
    split at h
    · cases h
    · rename_i hi
      cases h
      dsimp only
      rw [if_neg hi]
      refine ⟨_, ?_, hs.new⟩
      rw [e]
  · cases h
theorem sp_null {a b : Nat} : spO (o_null a b) := by
  intro F pc lv st M S' M2 h hs
  unfold o_null at h ⊢
  dsimp only at h ⊢
  repeat' split at h
  all_goals first | (cases h; done) | (cases h; exact ⟨M2, rfl, hs⟩) | (cases h; refine ⟨M2, ?_, hs⟩; first | (rw [if_pos (by assumption)]; done) | (rw [if_neg (by assumption)]; done) | (simp only [*]; done))
theorem sp_push {v : Value} {n : Nat} : spO (o_push v n) := by
  intro F pc lv st M S' M2 h hs
  unfold o_push at h ⊢
  dsimp only at h ⊢
  repeat' split at h
  all_goals first | (cases h; done) | (cases h; exact ⟨M2, rfl, hs⟩) | (cases h; refine ⟨M2, ?_, hs⟩; first | (rw [if_pos (by assumption)]; done) | (rw [if_neg (by assumption)]; done) | (simp only [*]; done))
theorem sp_put {ci k : Nat} {ty : FieldType} : spO (o_put ci k ty) := by
  intro F pc lv st M S' M2 h hs
  unfold o_put at h ⊢
  dsimp only at h ⊢
  split at h
  · rename_i v a st'
    cases hc : M.1 a with
    | none => rw [hc] at h; cases h
    | some c =>
      rw [hc] at h
      cases c with
      | inl r => cases h
      | inr o =>
        dsimp only at h ⊢
        rw [hs.get hc]
        dsimp only
        split at h
        · rename_i hq
          cases h
          rw [if_pos hq]
          exact ⟨_, rfl, hs.up hc⟩
        · cases h
  · cases h
theorem sp_scharAt : spO o_scharAt := by
  intro F pc lv st M S' M2 h hs
  unfold o_scharAt at h ⊢
  dsimp only at h ⊢
  split at h
  · rename_i a st'
    cases hc : M.1 a with
    | none => rw [hc] at h; cases h
    | some c =>
      rw [hc] at h
      cases c with
      | inl r => cases h
      | inr o =>
        dsimp only at h ⊢
        rw [hs.get hc]
        dsimp only
        split at h
        · rename_i hq
          cases h
          rw [if_pos hq]
          exact ⟨M2, rfl, hs⟩
        · cases h
  · cases h
theorem sp_slength : spO o_slength := by
  intro F pc lv st M S' M2 h hs
  unfold o_slength at h ⊢
  dsimp only at h ⊢
  split at h
  · rename_i a st'
    cases hc : M.1 a with
    | none => rw [hc] at h; cases h
    | some c =>
      rw [hc] at h
      cases c with
      | inl r => cases h
      | inr o =>
        dsimp only at h ⊢
        rw [hs.get hc]
        dsimp only
        split at h
        · rename_i hq
          cases h
          rw [if_pos hq]
          exact ⟨M2, rfl, hs⟩
        · cases h
  · cases h
theorem sp_sw {ps : List (Int × Nat)} {dt : Nat} : spO (o_sw ps dt) := by
  intro F pc lv st M S' M2 h hs
  unfold o_sw at h ⊢
  dsimp only at h ⊢
  repeat' split at h
  all_goals first | (cases h; done) | (cases h; exact ⟨M2, rfl, hs⟩) | (cases h; refine ⟨M2, ?_, hs⟩; first | (rw [if_pos (by assumption)]; done) | (rw [if_neg (by assumption)]; done) | (simp only [*]; done))
theorem sp_un {f : Int32 → Int32} : spO (o_un f) := by
  intro F pc lv st M S' M2 h hs
  unfold o_un at h ⊢
  dsimp only at h ⊢
  repeat' split at h
  all_goals first | (cases h; done) | (cases h; exact ⟨M2, rfl, hs⟩) | (cases h; refine ⟨M2, ?_, hs⟩; first | (rw [if_pos (by assumption)]; done) | (rw [if_neg (by assumption)]; done) | (simp only [*]; done))
def srS : List Nat := [11, 13, 18, 21, 22, 23, 24, 25, 26, 27, 28, 29, 30, 31, 32, 33, 34, 35, 36, 37, 38, 39, 40, 41, 42, 43, 44, 45, 46, 47, 48, 49, 50, 51, 52, 53, 54, 55, 56, 57, 58, 59, 60, 61, 62, 63, 64, 65, 66, 67, 68, 71, 74, 86, 106, 108, 110, 111, 112, 113, 114, 115, 117, 118, 119, 120, 121, 122, 123, 124, 125, 126, 127, 128, 129, 130, 132, 133, 134, 135, 136, 137, 138, 139, 140, 141, 142, 143, 144, 145, 146, 147, 148, 149, 150, 151, 152, 153, 154, 155, 156, 157, 158, 159, 160, 161, 162, 163, 164, 165, 166, 167, 168, 169, 170, 171, 172, 257]
theorem sr_11_0 {g : xe_G} : mt_all (spP srS) (mb_11_0 g) := mt_node_ok (mt_node_ok (mt_node_ok (mt_node_ok (mt_node_ok (mt_leaf_ok (sp_aload)) (mt_node_ok (mt_leaf_ok (sp_get)) (mt_leaf_ok (rfl)))) (mt_node_ok (mt_leaf_ok (sp_new)) (mt_node_ok (mt_leaf_ok (sp_dup)) (mt_leaf_ok (sp_aload))))) (mt_node_ok (mt_node_ok (mt_leaf_ok (sp_aload)) (mt_node_ok (mt_leaf_ok (rfl)) (mt_leaf_ok (sp_asto)))) (mt_node_ok (mt_leaf_ok (sp_new)) (mt_node_ok (mt_leaf_ok (sp_dup)) (mt_leaf_ok (sp_aload)))))) (mt_node_ok (mt_node_ok (mt_node_ok (mt_leaf_ok (sp_aload)) (mt_node_ok (mt_leaf_ok (rfl)) (mt_leaf_ok (sp_asto)))) (mt_node_ok (mt_leaf_ok (sp_new)) (mt_node_ok (mt_leaf_ok (sp_dup)) (mt_leaf_ok (sp_aload))))) (mt_node_ok (mt_node_ok (mt_leaf_ok (sp_aload)) (mt_node_ok (mt_leaf_ok (sp_aload)) (mt_leaf_ok (rfl)))) (mt_node_ok (mt_leaf_ok (sp_asto)) (mt_node_ok (mt_leaf_ok (sp_aload)) (mt_leaf_ok (rfl))))))) (mt_node_ok (mt_node_ok (mt_node_ok (mt_node_ok (mt_leaf_ok (sp_if)) (mt_node_ok (mt_leaf_ok (sp_aload)) (mt_leaf_ok (rfl)))) (mt_node_ok (mt_leaf_ok (sp_if)) (mt_node_ok (mt_leaf_ok (sp_aload)) (mt_leaf_ok (rfl))))) (mt_node_ok (mt_node_ok (mt_leaf_ok (sp_if)) (mt_node_ok (mt_leaf_ok (sp_aload)) (mt_leaf_ok (rfl)))) (mt_node_ok (mt_leaf_ok (sp_if)) (mt_node_ok (mt_leaf_ok (sp_aload)) (mt_leaf_ok (rfl)))))) (mt_node_ok (mt_node_ok (mt_node_ok (mt_leaf_ok (sp_if)) (mt_node_ok (mt_leaf_ok (sp_aload)) (mt_leaf_ok (rfl)))) (mt_node_ok (mt_leaf_ok (sp_if)) (mt_node_ok (mt_leaf_ok (sp_aload)) (mt_leaf_ok (sp_aload))))) (mt_node_ok (mt_node_ok (mt_leaf_ok (sp_get)) (mt_node_ok (mt_leaf_ok (rfl)) (mt_leaf_ok (sp_if)))) (mt_node_ok (mt_leaf_ok (sp_push)) (mt_node_ok (mt_leaf_ok (sp_goto)) (mt_leaf_ok (sp_push)))))))
theorem sr_11_1 {g : xe_G} : mt_all (spP srS) (mb_11_1 g) := mt_leaf_ok (trivial)
theorem sr_11 {g : xe_G} : mt_all (spP srS) (mb_11 g).2.1 := mt_node_ok ((sr_11_0 (g := g))) ((sr_11_1 (g := g)))
theorem sr_13_0 {g : xe_G} : mt_all (spP srS) (mb_13_0 g) := mt_node_ok (mt_node_ok (mt_node_ok (mt_node_ok (mt_leaf_ok (sp_new)) (mt_node_ok (mt_leaf_ok (sp_dup)) (mt_leaf_ok (sp_aload)))) (mt_node_ok (mt_node_ok (mt_leaf_ok (sp_aload)) (mt_leaf_ok (rfl))) (mt_node_ok (mt_leaf_ok (sp_asto)) (mt_leaf_ok (sp_aload))))) (mt_node_ok (mt_node_ok (mt_leaf_ok (rfl)) (mt_node_ok (mt_leaf_ok (sp_if)) (mt_leaf_ok (sp_aload)))) (mt_node_ok (mt_node_ok (mt_leaf_ok (rfl)) (mt_leaf_ok (sp_if))) (mt_node_ok (mt_leaf_ok (sp_aload)) (mt_leaf_ok (rfl)))))) (mt_node_ok (mt_node_ok (mt_node_ok (mt_leaf_ok (sp_if)) (mt_node_ok (mt_leaf_ok (sp_aload)) (mt_leaf_ok (rfl)))) (mt_node_ok (mt_node_ok (mt_leaf_ok (sp_if)) (mt_leaf_ok (sp_aload))) (mt_node_ok (mt_leaf_ok (rfl)) (mt_leaf_ok (sp_if))))) (mt_node_ok (mt_node_ok (mt_leaf_ok (sp_aload)) (mt_node_ok (mt_leaf_ok (rfl)) (mt_leaf_ok (sp_if)))) (mt_node_ok (mt_node_ok (mt_leaf_ok (sp_push)) (mt_leaf_ok (sp_goto))) (mt_node_ok (mt_leaf_ok (sp_push)) (mt_leaf_ok (trivial))))))
theorem sr_13 {g : xe_G} : mt_all (spP srS) (mb_13 g).2.1 := (sr_13_0 (g := g))
theorem sr_18_0 {g : xe_G} : mt_all (spP srS) (mb_18_0 g) := mt_node_ok (mt_node_ok (mt_node_ok (mt_node_ok (mt_node_ok (mt_leaf_ok (sp_new)) (mt_leaf_ok (sp_dup))) (mt_node_ok (mt_leaf_ok (sp_new)) (mt_leaf_ok (sp_dup)))) (mt_node_ok (mt_node_ok (mt_leaf_ok (sp_aload)) (mt_leaf_ok (sp_get))) (mt_node_ok (mt_leaf_ok (rfl)) (mt_leaf_ok (rfl))))) (mt_node_ok (mt_node_ok (mt_node_ok (mt_leaf_ok (sp_asto)) (mt_leaf_ok (sp_new))) (mt_node_ok (mt_leaf_ok (sp_dup)) (mt_leaf_ok (rfl)))) (mt_node_ok (mt_node_ok (mt_leaf_ok (sp_asto)) (mt_leaf_ok (sp_aload))) (mt_node_ok (mt_leaf_ok (sp_push)) (mt_node_ok (mt_leaf_ok (sp_put)) (mt_leaf_ok (sp_aload))))))) (mt_node_ok (mt_node_ok (mt_node_ok (mt_node_ok (mt_leaf_ok (sp_aload)) (mt_leaf_ok (rfl))) (mt_node_ok (mt_leaf_ok (sp_if)) (mt_leaf_ok (sp_aload)))) (mt_node_ok (mt_node_ok (mt_leaf_ok (sp_aload)) (mt_leaf_ok (rfl))) (mt_node_ok (mt_leaf_ok (sp_if)) (mt_leaf_ok (sp_aload))))) (mt_node_ok (mt_node_ok (mt_node_ok (mt_leaf_ok (sp_aload)) (mt_leaf_ok (sp_put))) (mt_node_ok (mt_leaf_ok (sp_aload)) (mt_leaf_ok (sp_aload)))) (mt_node_ok (mt_node_ok (mt_leaf_ok (sp_get)) (mt_leaf_ok (sp_put))) (mt_node_ok (mt_leaf_ok (sp_aload)) (mt_node_ok (mt_leaf_ok (sp_get)) (mt_leaf_ok (trivial)))))))
theorem sr_18 {g : xe_G} : mt_all (spP srS) (mb_18 g).2.1 := (sr_18_0 (g := g))
theorem sr_21_0 {g : xe_G} : mt_all (spP srS) (mb_21_0 g) := mt_node_ok (mt_node_ok (mt_node_ok (mt_node_ok (mt_leaf_ok (sp_aload)) (mt_leaf_ok (sp_drop))) (mt_node_ok (mt_leaf_ok (sp_aload)) (mt_leaf_ok (sp_aload)))) (mt_node_ok (mt_node_ok (mt_leaf_ok (sp_put)) (mt_leaf_ok (sp_aload))) (mt_node_ok (mt_leaf_ok (sp_aload)) (mt_leaf_ok (sp_put))))) (mt_node_ok (mt_node_ok (mt_node_ok (mt_leaf_ok (sp_aload)) (mt_leaf_ok (sp_aload))) (mt_node_ok (mt_leaf_ok (sp_get)) (mt_leaf_ok (sp_put)))) (mt_node_ok (mt_node_ok (mt_leaf_ok (sp_aload)) (mt_leaf_ok (sp_aload))) (mt_node_ok (mt_leaf_ok (sp_get)) (mt_node_ok (mt_leaf_ok (sp_put)) (mt_leaf_ok (trivial))))))
theorem sr_21 {g : xe_G} : mt_all (spP srS) (mb_21 g).2.1 := (sr_21_0 (g := g))
theorem sr_22_0 {g : xe_G} : mt_all (spP srS) (mb_22_0 g) := mt_node_ok (mt_node_ok (mt_node_ok (mt_node_ok (mt_node_ok (mt_leaf_ok (sp_aload)) (mt_leaf_ok (sp_get))) (mt_node_ok (mt_leaf_ok (sp_iload)) (mt_leaf_ok (sp_push)))) (mt_node_ok (mt_node_ok (mt_leaf_ok (sp_bin)) (mt_leaf_ok (rfl))) (mt_node_ok (mt_leaf_ok (sp_isto)) (mt_leaf_ok (sp_push))))) (mt_node_ok (mt_node_ok (mt_node_ok (mt_leaf_ok (sp_isto)) (mt_leaf_ok (sp_iload))) (mt_node_ok (mt_leaf_ok (sp_iload)) (mt_leaf_ok (sp_if2)))) (mt_node_ok (mt_node_ok (mt_leaf_ok (sp_aload)) (mt_leaf_ok (sp_get))) (mt_node_ok (mt_leaf_ok (sp_aload)) (mt_leaf_ok (sp_get)))))) (mt_node_ok (mt_node_ok (mt_node_ok (mt_node_ok (mt_leaf_ok (sp_iload)) (mt_leaf_ok (sp_push))) (mt_node_ok (mt_leaf_ok (sp_bin)) (mt_leaf_ok (sp_push)))) (mt_node_ok (mt_node_ok (mt_leaf_ok (sp_iload)) (mt_leaf_ok (sp_bin))) (mt_node_ok (mt_leaf_ok (sp_bin)) (mt_leaf_ok (rfl))))) (mt_node_ok (mt_node_ok (mt_node_ok (mt_leaf_ok (rfl)) (mt_leaf_ok (sp_push))) (mt_node_ok (mt_leaf_ok (sp_if2)) (mt_leaf_ok (sp_push)))) (mt_node_ok (mt_node_ok (mt_leaf_ok (trivial)) (mt_leaf_ok (sp_iinc))) (mt_node_ok (mt_leaf_ok (sp_goto)) (mt_node_ok (mt_leaf_ok (sp_push)) (mt_leaf_ok (trivial)))))))
theorem sr_22 {g : xe_G} : mt_all (spP srS) (mb_22 g).2.1 := (sr_22_0 (g := g))
theorem sr_23_0 {g : xe_G} : mt_all (spP srS) (mb_23_0 g) := mt_node_ok (mt_node_ok (mt_node_ok (mt_leaf_ok (sp_iload)) (mt_leaf_ok (sp_push))) (mt_node_ok (mt_leaf_ok (sp_bin)) (mt_node_ok (mt_leaf_ok (sp_aload)) (mt_leaf_ok (sp_get))))) (mt_node_ok (mt_node_ok (mt_leaf_ok (sp_iload)) (mt_node_ok (mt_leaf_ok (sp_push)) (mt_leaf_ok (sp_bin)))) (mt_node_ok (mt_leaf_ok (rfl)) (mt_node_ok (mt_leaf_ok (sp_bin)) (mt_leaf_ok (trivial)))))
theorem sr_23 {g : xe_G} : mt_all (spP srS) (mb_23 g).2.1 := (sr_23_0 (g := g))
theorem sr_24_0 {g : xe_G} : mt_all (spP srS) (mb_24_0 g) := mt_node_ok (mt_node_ok (mt_node_ok (mt_node_ok (mt_node_ok (mt_leaf_ok (sp_aload)) (mt_leaf_ok (sp_get))) (mt_node_ok (mt_leaf_ok (sp_iload)) (mt_leaf_ok (rfl)))) (mt_node_ok (mt_node_ok (mt_leaf_ok (sp_isto)) (mt_leaf_ok (sp_iload))) (mt_node_ok (mt_leaf_ok (sp_push)) (mt_node_ok (mt_leaf_ok (sp_bin)) (mt_leaf_ok (sp_isto)))))) (mt_node_ok (mt_node_ok (mt_node_ok (mt_leaf_ok (sp_push)) (mt_leaf_ok (sp_isto))) (mt_node_ok (mt_leaf_ok (sp_iload)) (mt_node_ok (mt_leaf_ok (sp_iload)) (mt_leaf_ok (sp_if2))))) (mt_node_ok (mt_node_ok (mt_leaf_ok (sp_iload)) (mt_leaf_ok (sp_iload))) (mt_node_ok (mt_leaf_ok (sp_bin)) (mt_node_ok (mt_leaf_ok (sp_push)) (mt_leaf_ok (sp_if2))))))) (mt_node_ok (mt_node_ok (mt_node_ok (mt_node_ok (mt_leaf_ok (sp_push)) (mt_leaf_ok (trivial))) (mt_node_ok (mt_leaf_ok (sp_iload)) (mt_leaf_ok (sp_push)))) (mt_node_ok (mt_node_ok (mt_leaf_ok (sp_push)) (mt_leaf_ok (sp_aload))) (mt_node_ok (mt_leaf_ok (sp_get)) (mt_node_ok (mt_leaf_ok (sp_iload)) (mt_leaf_ok (sp_push)))))) (mt_node_ok (mt_node_ok (mt_node_ok (mt_leaf_ok (sp_bin)) (mt_leaf_ok (rfl))) (mt_node_ok (mt_leaf_ok (sp_bin)) (mt_node_ok (mt_leaf_ok (sp_bin)) (mt_leaf_ok (sp_bin))))) (mt_node_ok (mt_node_ok (mt_leaf_ok (sp_isto)) (mt_leaf_ok (sp_iinc))) (mt_node_ok (mt_leaf_ok (sp_goto)) (mt_node_ok (mt_leaf_ok (sp_iload)) (mt_leaf_ok (trivial)))))))
theorem sr_24 {g : xe_G} : mt_all (spP srS) (mb_24 g).2.1 := (sr_24_0 (g := g))
theorem sr_25_0 {g : xe_G} : mt_all (spP srS) (mb_25_0 g) := mt_node_ok (mt_node_ok (mt_node_ok (mt_node_ok (mt_node_ok (mt_leaf_ok (sp_aload)) (mt_node_ok (mt_leaf_ok (sp_get)) (mt_leaf_ok (sp_get)))) (mt_node_ok (mt_leaf_ok (sp_isto)) (mt_node_ok (mt_leaf_ok (sp_push)) (mt_leaf_ok (sp_isto))))) (mt_node_ok (mt_node_ok (mt_leaf_ok (sp_iload)) (mt_node_ok (mt_leaf_ok (sp_aload)) (mt_leaf_ok (sp_get)))) (mt_node_ok (mt_leaf_ok (sp_get)) (mt_node_ok (mt_leaf_ok (sp_if2)) (mt_leaf_ok (sp_aload)))))) (mt_node_ok (mt_node_ok (mt_node_ok (mt_leaf_ok (sp_get)) (mt_node_ok (mt_leaf_ok (sp_aload)) (mt_leaf_ok (sp_get)))) (mt_node_ok (mt_leaf_ok (sp_iload)) (mt_node_ok (mt_leaf_ok (rfl)) (mt_leaf_ok (rfl))))) (mt_node_ok (mt_node_ok (mt_leaf_ok (sp_push)) (mt_node_ok (mt_leaf_ok (sp_if2)) (mt_leaf_ok (sp_push)))) (mt_node_ok (mt_leaf_ok (trivial)) (mt_node_ok (mt_leaf_ok (sp_aload)) (mt_leaf_ok (sp_get))))))) (mt_node_ok (mt_node_ok (mt_node_ok (mt_node_ok (mt_leaf_ok (sp_iload)) (mt_node_ok (mt_leaf_ok (sp_push)) (mt_leaf_ok (sp_bin)))) (mt_node_ok (mt_leaf_ok (rfl)) (mt_node_ok (mt_leaf_ok (sp_isto)) (mt_leaf_ok (sp_iinc))))) (mt_node_ok (mt_node_ok (mt_leaf_ok (sp_push)) (mt_node_ok (mt_leaf_ok (sp_isto)) (mt_leaf_ok (sp_iload)))) (mt_node_ok (mt_leaf_ok (sp_iload)) (mt_node_ok (mt_leaf_ok (sp_if2)) (mt_leaf_ok (sp_aload)))))) (mt_node_ok (mt_node_ok (mt_node_ok (mt_leaf_ok (sp_get)) (mt_node_ok (mt_leaf_ok (sp_aload)) (mt_leaf_ok (sp_get)))) (mt_node_ok (mt_leaf_ok (sp_iload)) (mt_node_ok (mt_leaf_ok (rfl)) (mt_leaf_ok (rfl))))) (mt_node_ok (mt_node_ok (mt_leaf_ok (rfl)) (mt_node_ok (mt_leaf_ok (sp_if)) (mt_leaf_ok (sp_push)))) (mt_node_ok (mt_leaf_ok (trivial)) (mt_node_ok (mt_leaf_ok (sp_iinc)) (mt_leaf_ok (sp_iinc)))))))
theorem sr_25_1 {g : xe_G} : mt_all (spP srS) (mb_25_1 g) := mt_node_ok (mt_node_ok (mt_leaf_ok (sp_goto)) (mt_leaf_ok (sp_iinc))) (mt_node_ok (mt_leaf_ok (sp_goto)) (mt_node_ok (mt_leaf_ok (sp_push)) (mt_leaf_ok (trivial))))
theorem sr_25 {g : xe_G} : mt_all (spP srS) (mb_25 g).2.1 := mt_node_ok ((sr_25_0 (g := g))) ((sr_25_1 (g := g)))
theorem sr_26_0 {g : xe_G} : mt_all (spP srS) (mb_26_0 g) := mt_node_ok (mt_node_ok (mt_node_ok (mt_node_ok (mt_node_ok (mt_leaf_ok (sp_iload)) (mt_node_ok (mt_leaf_ok (sp_sw)) (mt_leaf_ok (sp_aload)))) (mt_node_ok (mt_leaf_ok (sp_get)) (mt_node_ok (mt_leaf_ok (sp_aload)) (mt_leaf_ok (sp_get))))) (mt_node_ok (mt_node_ok (mt_leaf_ok (sp_iload)) (mt_node_ok (mt_leaf_ok (sp_push)) (mt_leaf_ok (sp_bin)))) (mt_node_ok (mt_leaf_ok (rfl)) (mt_node_ok (mt_leaf_ok (sp_put)) (mt_leaf_ok (sp_aload)))))) (mt_node_ok (mt_node_ok (mt_node_ok (mt_leaf_ok (sp_iload)) (mt_node_ok (mt_leaf_ok (rfl)) (mt_leaf_ok (sp_if)))) (mt_node_ok (mt_leaf_ok (sp_push)) (mt_node_ok (mt_leaf_ok (sp_goto)) (mt_leaf_ok (sp_push))))) (mt_node_ok (mt_node_ok (mt_leaf_ok (trivial)) (mt_node_ok (mt_leaf_ok (sp_aload)) (mt_leaf_ok (sp_get)))) (mt_node_ok (mt_leaf_ok (sp_aload)) (mt_node_ok (mt_leaf_ok (sp_get)) (mt_leaf_ok (sp_iload))))))) (mt_node_ok (mt_node_ok (mt_node_ok (mt_node_ok (mt_leaf_ok (sp_push)) (mt_node_ok (mt_leaf_ok (sp_bin)) (mt_leaf_ok (rfl)))) (mt_node_ok (mt_leaf_ok (rfl)) (mt_node_ok (mt_leaf_ok (sp_push)) (mt_leaf_ok (sp_if2))))) (mt_node_ok (mt_node_ok (mt_leaf_ok (sp_aload)) (mt_node_ok (mt_leaf_ok (sp_push)) (mt_leaf_ok (rfl)))) (mt_node_ok (mt_leaf_ok (sp_if)) (mt_node_ok (mt_leaf_ok (sp_push)) (mt_leaf_ok (sp_goto)))))) (mt_node_ok (mt_node_ok (mt_node_ok (mt_leaf_ok (sp_push)) (mt_node_ok (mt_leaf_ok (trivial)) (mt_leaf_ok (sp_aload)))) (mt_node_ok (mt_leaf_ok (sp_get)) (mt_node_ok (mt_leaf_ok (sp_aload)) (mt_leaf_ok (sp_get))))) (mt_node_ok (mt_node_ok (mt_leaf_ok (sp_iload)) (mt_node_ok (mt_leaf_ok (sp_push)) (mt_leaf_ok (sp_bin)))) (mt_node_ok (mt_leaf_ok (rfl)) (mt_node_ok (mt_leaf_ok (sp_put)) (mt_leaf_ok (sp_aload)))))))
theorem sr_26_1 {g : xe_G} : mt_all (spP srS) (mb_26_1 g) := mt_node_ok (mt_node_ok (mt_node_ok (mt_node_ok (mt_node_ok (mt_leaf_ok (sp_iload)) (mt_node_ok (mt_leaf_ok (rfl)) (mt_leaf_ok (sp_if)))) (mt_node_ok (mt_leaf_ok (sp_aload)) (mt_node_ok (mt_leaf_ok (sp_push)) (mt_leaf_ok (rfl))))) (mt_node_ok (mt_node_ok (mt_leaf_ok (sp_if)) (mt_node_ok (mt_leaf_ok (sp_push)) (mt_leaf_ok (sp_goto)))) (mt_node_ok (mt_leaf_ok (sp_push)) (mt_node_ok (mt_leaf_ok (trivial)) (mt_leaf_ok (sp_aload)))))) (mt_node_ok (mt_node_ok (mt_node_ok (mt_leaf_ok (sp_get)) (mt_node_ok (mt_leaf_ok (sp_aload)) (mt_leaf_ok (sp_get)))) (mt_node_ok (mt_leaf_ok (sp_iload)) (mt_node_ok (mt_leaf_ok (sp_push)) (mt_leaf_ok (sp_bin))))) (mt_node_ok (mt_node_ok (mt_leaf_ok (rfl)) (mt_node_ok (mt_leaf_ok (sp_put)) (mt_leaf_ok (sp_aload)))) (mt_node_ok (mt_leaf_ok (sp_iload)) (mt_node_ok (mt_leaf_ok (rfl)) (mt_leaf_ok (sp_if))))))) (mt_node_ok (mt_node_ok (mt_node_ok (mt_node_ok (mt_leaf_ok (sp_aload)) (mt_node_ok (mt_leaf_ok (sp_get)) (mt_leaf_ok (sp_push)))) (mt_node_ok (mt_leaf_ok (rfl)) (mt_node_ok (mt_leaf_ok (sp_if)) (mt_leaf_ok (sp_push))))) (mt_node_ok (mt_node_ok (mt_leaf_ok (sp_goto)) (mt_node_ok (mt_leaf_ok (sp_push)) (mt_leaf_ok (trivial)))) (mt_node_ok (mt_leaf_ok (sp_aload)) (mt_node_ok (mt_leaf_ok (sp_get)) (mt_leaf_ok (sp_aload)))))) (mt_node_ok (mt_node_ok (mt_node_ok (mt_leaf_ok (sp_get)) (mt_node_ok (mt_leaf_ok (sp_iload)) (mt_leaf_ok (sp_push)))) (mt_node_ok (mt_leaf_ok (sp_bin)) (mt_node_ok (mt_leaf_ok (rfl)) (mt_leaf_ok (sp_put))))) (mt_node_ok (mt_node_ok (mt_leaf_ok (sp_aload)) (mt_node_ok (mt_leaf_ok (sp_iload)) (mt_leaf_ok (rfl)))) (mt_node_ok (mt_leaf_ok (sp_if)) (mt_node_ok (mt_leaf_ok (sp_push)) (mt_leaf_ok (sp_goto)))))))
theorem sr_26_2 {g : xe_G} : mt_all (spP srS) (mb_26_2 g) := mt_node_ok (mt_node_ok (mt_node_ok (mt_node_ok (mt_leaf_ok (sp_push)) (mt_node_ok (mt_leaf_ok (trivial)) (mt_leaf_ok (sp_aload)))) (mt_node_ok (mt_leaf_ok (sp_get)) (mt_node_ok (mt_leaf_ok (sp_aload)) (mt_leaf_ok (sp_get))))) (mt_node_ok (mt_node_ok (mt_leaf_ok (sp_iload)) (mt_node_ok (mt_leaf_ok (sp_push)) (mt_leaf_ok (sp_bin)))) (mt_node_ok (mt_node_ok (mt_leaf_ok (rfl)) (mt_leaf_ok (sp_put))) (mt_node_ok (mt_leaf_ok (sp_aload)) (mt_leaf_ok (sp_get)))))) (mt_node_ok (mt_node_ok (mt_node_ok (mt_leaf_ok (sp_iload)) (mt_node_ok (mt_leaf_ok (sp_push)) (mt_leaf_ok (sp_bin)))) (mt_node_ok (mt_leaf_ok (sp_put)) (mt_node_ok (mt_leaf_ok (sp_aload)) (mt_leaf_ok (rfl))))) (mt_node_ok (mt_node_ok (mt_leaf_ok (sp_if)) (mt_node_ok (mt_leaf_ok (sp_push)) (mt_leaf_ok (sp_goto)))) (mt_node_ok (mt_node_ok (mt_leaf_ok (sp_push)) (mt_leaf_ok (trivial))) (mt_node_ok (mt_leaf_ok (sp_push)) (mt_leaf_ok (trivial))))))
theorem sr_26 {g : xe_G} : mt_all (spP srS) (mb_26 g).2.1 := mt_node_ok ((sr_26_0 (g := g))) (mt_node_ok ((sr_26_1 (g := g))) ((sr_26_2 (g := g))))
theorem sr_27_0 {g : xe_G} : mt_all (spP srS) (mb_27_0 g) := mt_node_ok (mt_node_ok (mt_node_ok (mt_node_ok (mt_node_ok (mt_leaf_ok (sp_aload)) (mt_node_ok (mt_leaf_ok (sp_get)) (mt_leaf_ok (sp_iload)))) (mt_node_ok (mt_leaf_ok (sp_push)) (mt_node_ok (mt_leaf_ok (rfl)) (mt_leaf_ok (sp_if))))) (mt_node_ok (mt_node_ok (mt_leaf_ok (sp_push)) (mt_node_ok (mt_leaf_ok (trivial)) (mt_leaf_ok (sp_aload)))) (mt_node_ok (mt_leaf_ok (sp_get)) (mt_node_ok (mt_leaf_ok (sp_get)) (mt_leaf_ok (sp_push)))))) (mt_node_ok (mt_node_ok (mt_node_ok (mt_leaf_ok (sp_if2)) (mt_node_ok (mt_leaf_ok (sp_aload)) (mt_leaf_ok (sp_get)))) (mt_node_ok (mt_leaf_ok (sp_iload)) (mt_node_ok (mt_leaf_ok (sp_push)) (mt_leaf_ok (rfl))))) (mt_node_ok (mt_node_ok (mt_leaf_ok (sp_if)) (mt_node_ok (mt_leaf_ok (sp_push)) (mt_leaf_ok (trivial)))) (mt_node_ok (mt_leaf_ok (sp_aload)) (mt_node_ok (mt_leaf_ok (sp_get)) (mt_leaf_ok (sp_get))))))) (mt_node_ok (mt_node_ok (mt_node_ok (mt_node_ok (mt_leaf_ok (sp_push)) (mt_node_ok (mt_leaf_ok (sp_if2)) (mt_leaf_ok (sp_aload)))) (mt_node_ok (mt_leaf_ok (sp_get)) (mt_node_ok (mt_leaf_ok (sp_iload)) (mt_leaf_ok (sp_push))))) (mt_node_ok (mt_node_ok (mt_leaf_ok (rfl)) (mt_node_ok (mt_leaf_ok (sp_if)) (mt_leaf_ok (sp_push)))) (mt_node_ok (mt_leaf_ok (trivial)) (mt_node_ok (mt_leaf_ok (sp_aload)) (mt_leaf_ok (sp_get)))))) (mt_node_ok (mt_node_ok (mt_node_ok (mt_leaf_ok (sp_get)) (mt_node_ok (mt_leaf_ok (sp_push)) (mt_leaf_ok (sp_if2)))) (mt_node_ok (mt_leaf_ok (sp_aload)) (mt_node_ok (mt_leaf_ok (sp_get)) (mt_leaf_ok (sp_iload))))) (mt_node_ok (mt_node_ok (mt_leaf_ok (sp_push)) (mt_node_ok (mt_leaf_ok (rfl)) (mt_leaf_ok (sp_if)))) (mt_node_ok (mt_leaf_ok (sp_push)) (mt_node_ok (mt_leaf_ok (trivial)) (mt_leaf_ok (sp_aload)))))))
theorem sr_27_1 {g : xe_G} : mt_all (spP srS) (mb_27_1 g) := mt_node_ok (mt_node_ok (mt_node_ok (mt_node_ok (mt_leaf_ok (sp_get)) (mt_node_ok (mt_leaf_ok (sp_get)) (mt_leaf_ok (sp_push)))) (mt_node_ok (mt_leaf_ok (sp_if2)) (mt_node_ok (mt_leaf_ok (sp_aload)) (mt_leaf_ok (sp_get))))) (mt_node_ok (mt_node_ok (mt_leaf_ok (sp_iload)) (mt_node_ok (mt_leaf_ok (sp_push)) (mt_leaf_ok (rfl)))) (mt_node_ok (mt_node_ok (mt_leaf_ok (sp_if)) (mt_leaf_ok (sp_push))) (mt_node_ok (mt_leaf_ok (trivial)) (mt_leaf_ok (sp_aload)))))) (mt_node_ok (mt_node_ok (mt_node_ok (mt_leaf_ok (sp_get)) (mt_node_ok (mt_leaf_ok (sp_get)) (mt_leaf_ok (sp_push)))) (mt_node_ok (mt_node_ok (mt_leaf_ok (sp_if2)) (mt_leaf_ok (sp_aload))) (mt_node_ok (mt_leaf_ok (sp_get)) (mt_leaf_ok (sp_iload))))) (mt_node_ok (mt_node_ok (mt_leaf_ok (sp_push)) (mt_node_ok (mt_leaf_ok (rfl)) (mt_leaf_ok (sp_if)))) (mt_node_ok (mt_node_ok (mt_leaf_ok (sp_push)) (mt_leaf_ok (trivial))) (mt_node_ok (mt_leaf_ok (sp_push)) (mt_leaf_ok (trivial))))))
theorem sr_27 {g : xe_G} : mt_all (spP srS) (mb_27 g).2.1 := mt_node_ok ((sr_27_0 (g := g))) ((sr_27_1 (g := g)))
theorem sr_28_0 {g : xe_G} : mt_all (spP srS) (mb_28_0 g) := mt_node_ok (mt_node_ok (mt_node_ok (mt_node_ok (mt_node_ok (mt_leaf_ok (sp_aload)) (mt_node_ok (mt_leaf_ok (sp_get)) (mt_leaf_ok (sp_iload)))) (mt_node_ok (mt_leaf_ok (rfl)) (mt_node_ok (mt_leaf_ok (sp_isto)) (mt_leaf_ok (sp_iload))))) (mt_node_ok (mt_node_ok (mt_leaf_ok (sp_push)) (mt_node_ok (mt_leaf_ok (sp_bin)) (mt_leaf_ok (sp_isto)))) (mt_node_ok (mt_leaf_ok (sp_push)) (mt_node_ok (mt_leaf_ok (sp_isto)) (mt_leaf_ok (sp_iload)))))) (mt_node_ok (mt_node_ok (mt_node_ok (mt_leaf_ok (sp_iload)) (mt_node_ok (mt_leaf_ok (sp_if2)) (mt_leaf_ok (sp_aload)))) (mt_node_ok (mt_leaf_ok (sp_get)) (mt_node_ok (mt_leaf_ok (sp_get)) (mt_leaf_ok (sp_push))))) (mt_node_ok (mt_node_ok (mt_leaf_ok (sp_if2)) (mt_node_ok (mt_leaf_ok (sp_aload)) (mt_leaf_ok (sp_get)))) (mt_node_ok (mt_leaf_ok (sp_aload)) (mt_node_ok (mt_leaf_ok (sp_get)) (mt_leaf_ok (sp_iload))))))) (mt_node_ok (mt_node_ok (mt_node_ok (mt_node_ok (mt_leaf_ok (rfl)) (mt_node_ok (mt_leaf_ok (sp_push)) (mt_leaf_ok (rfl)))) (mt_node_ok (mt_leaf_ok (sp_if)) (mt_node_ok (mt_leaf_ok (sp_push)) (mt_leaf_ok (sp_goto))))) (mt_node_ok (mt_node_ok (mt_leaf_ok (sp_push)) (mt_node_ok (mt_leaf_ok (sp_isto)) (mt_leaf_ok (sp_aload)))) (mt_node_ok (mt_leaf_ok (sp_iload)) (mt_node_ok (mt_leaf_ok (sp_iload)) (mt_leaf_ok (sp_if)))))) (mt_node_ok (mt_node_ok (mt_node_ok (mt_leaf_ok (sp_push)) (mt_node_ok (mt_leaf_ok (sp_goto)) (mt_leaf_ok (sp_push)))) (mt_node_ok (mt_leaf_ok (rfl)) (mt_node_ok (mt_leaf_ok (sp_if)) (mt_leaf_ok (sp_push))))) (mt_node_ok (mt_node_ok (mt_leaf_ok (trivial)) (mt_node_ok (mt_leaf_ok (sp_aload)) (mt_leaf_ok (sp_iload)))) (mt_node_ok (mt_leaf_ok (rfl)) (mt_node_ok (mt_leaf_ok (sp_isto)) (mt_leaf_ok (sp_iinc)))))))
theorem sr_28_1 {g : xe_G} : mt_all (spP srS) (mb_28_1 g) := mt_node_ok (mt_leaf_ok (sp_goto)) (mt_node_ok (mt_leaf_ok (sp_push)) (mt_leaf_ok (trivial)))
theorem sr_28 {g : xe_G} : mt_all (spP srS) (mb_28 g).2.1 := mt_node_ok ((sr_28_0 (g := g))) ((sr_28_1 (g := g)))
theorem sr_29_0 {g : xe_G} : mt_all (spP srS) (mb_29_0 g) := mt_node_ok (mt_node_ok (mt_node_ok (mt_node_ok (mt_node_ok (mt_leaf_ok (sp_iload)) (mt_node_ok (mt_leaf_ok (sp_iload)) (mt_leaf_ok (sp_bin)))) (mt_node_ok (mt_leaf_ok (sp_push)) (mt_node_ok (mt_leaf_ok (sp_if2)) (mt_leaf_ok (sp_push))))) (mt_node_ok (mt_node_ok (mt_leaf_ok (trivial)) (mt_node_ok (mt_leaf_ok (sp_aload)) (mt_leaf_ok (sp_get)))) (mt_node_ok (mt_leaf_ok (sp_iload)) (mt_node_ok (mt_leaf_ok (sp_push)) (mt_leaf_ok (sp_bin)))))) (mt_node_ok (mt_node_ok (mt_node_ok (mt_leaf_ok (rfl)) (mt_node_ok (mt_leaf_ok (sp_isto)) (mt_leaf_ok (sp_iload)))) (mt_node_ok (mt_leaf_ok (sp_if)) (mt_node_ok (mt_leaf_ok (sp_iload)) (mt_leaf_ok (sp_iload))))) (mt_node_ok (mt_node_ok (mt_leaf_ok (sp_iload)) (mt_node_ok (mt_leaf_ok (sp_bin)) (mt_leaf_ok (sp_push)))) (mt_node_ok (mt_leaf_ok (sp_bin)) (mt_node_ok (mt_leaf_ok (sp_if2)) (mt_leaf_ok (sp_push))))))) (mt_node_ok (mt_node_ok (mt_node_ok (mt_node_ok (mt_leaf_ok (trivial)) (mt_node_ok (mt_leaf_ok (sp_iload)) (mt_leaf_ok (sp_push)))) (mt_node_ok (mt_leaf_ok (sp_bin)) (mt_node_ok (mt_leaf_ok (sp_iload)) (mt_leaf_ok (sp_bin))))) (mt_node_ok (mt_node_ok (mt_leaf_ok (sp_isto)) (mt_node_ok (mt_leaf_ok (sp_iload)) (mt_leaf_ok (sp_iload)))) (mt_node_ok (mt_leaf_ok (sp_bin)) (mt_node_ok (mt_leaf_ok (sp_push)) (mt_leaf_ok (sp_if2)))))) (mt_node_ok (mt_node_ok (mt_node_ok (mt_leaf_ok (sp_iload)) (mt_node_ok (mt_leaf_ok (sp_iload)) (mt_leaf_ok (sp_bin)))) (mt_node_ok (mt_leaf_ok (sp_push)) (mt_node_ok (mt_leaf_ok (sp_bin)) (mt_leaf_ok (sp_push))))) (mt_node_ok (mt_node_ok (mt_leaf_ok (sp_aload)) (mt_node_ok (mt_leaf_ok (sp_get)) (mt_leaf_ok (sp_iload)))) (mt_node_ok (mt_leaf_ok (rfl)) (mt_node_ok (mt_leaf_ok (sp_bin)) (mt_leaf_ok (sp_if2)))))))
theorem sr_29_1 {g : xe_G} : mt_all (spP srS) (mb_29_1 g) := mt_node_ok (mt_node_ok (mt_node_ok (mt_node_ok (mt_node_ok (mt_leaf_ok (sp_push)) (mt_leaf_ok (trivial))) (mt_node_ok (mt_leaf_ok (sp_iload)) (mt_leaf_ok (sp_push)))) (mt_node_ok (mt_node_ok (mt_leaf_ok (sp_bin)) (mt_leaf_ok (sp_push))) (mt_node_ok (mt_leaf_ok (sp_aload)) (mt_leaf_ok (sp_get))))) (mt_node_ok (mt_node_ok (mt_node_ok (mt_leaf_ok (sp_iload)) (mt_leaf_ok (rfl))) (mt_node_ok (mt_leaf_ok (sp_bin)) (mt_leaf_ok (sp_bin)))) (mt_node_ok (mt_node_ok (mt_leaf_ok (sp_isto)) (mt_leaf_ok (sp_iload))) (mt_node_ok (mt_leaf_ok (sp_iload)) (mt_leaf_ok (sp_bin)))))) (mt_node_ok (mt_node_ok (mt_node_ok (mt_node_ok (mt_leaf_ok (sp_push)) (mt_leaf_ok (sp_if2))) (mt_node_ok (mt_leaf_ok (sp_push)) (mt_leaf_ok (trivial)))) (mt_node_ok (mt_node_ok (mt_leaf_ok (sp_aload)) (mt_leaf_ok (sp_get))) (mt_node_ok (mt_leaf_ok (sp_iload)) (mt_leaf_ok (sp_push))))) (mt_node_ok (mt_node_ok (mt_node_ok (mt_leaf_ok (sp_bin)) (mt_leaf_ok (sp_aload))) (mt_node_ok (mt_leaf_ok (sp_get)) (mt_leaf_ok (sp_iload)))) (mt_node_ok (mt_node_ok (mt_leaf_ok (rfl)) (mt_leaf_ok (sp_iload))) (mt_node_ok (mt_leaf_ok (rfl)) (mt_leaf_ok (trivial))))))
theorem sr_29 {g : xe_G} : mt_all (spP srS) (mb_29 g).2.1 := mt_node_ok ((sr_29_0 (g := g))) ((sr_29_1 (g := g)))
theorem sr_30_0 {g : xe_G} : mt_all (spP srS) (mb_30_0 g) := mt_node_ok (mt_node_ok (mt_node_ok (mt_node_ok (mt_node_ok (mt_leaf_ok (sp_new)) (mt_node_ok (mt_leaf_ok (sp_dup)) (mt_leaf_ok (sp_aload)))) (mt_node_ok (mt_leaf_ok (sp_get)) (mt_node_ok (mt_leaf_ok (sp_iload)) (mt_leaf_ok (sp_push))))) (mt_node_ok (mt_node_ok (mt_leaf_ok (sp_bin)) (mt_node_ok (mt_leaf_ok (rfl)) (mt_leaf_ok (sp_asto)))) (mt_node_ok (mt_leaf_ok (sp_aload)) (mt_node_ok (mt_leaf_ok (sp_get)) (mt_leaf_ok (sp_push)))))) (mt_node_ok (mt_node_ok (mt_node_ok (mt_leaf_ok (sp_if2)) (mt_node_ok (mt_leaf_ok (sp_aload)) (mt_leaf_ok (sp_get)))) (mt_node_ok (mt_leaf_ok (sp_push)) (mt_node_ok (mt_leaf_ok (sp_if2)) (mt_leaf_ok (sp_aload))))) (mt_node_ok (mt_node_ok (mt_leaf_ok (sp_get)) (mt_node_ok (mt_leaf_ok (sp_push)) (mt_leaf_ok (sp_iload)))) (mt_node_ok (mt_leaf_ok (rfl)) (mt_node_ok (mt_leaf_ok (trivial)) (mt_leaf_ok (sp_aload))))))) (mt_node_ok (mt_node_ok (mt_node_ok (mt_node_ok (mt_leaf_ok (sp_get)) (mt_node_ok (mt_leaf_ok (sp_aload)) (mt_leaf_ok (sp_get)))) (mt_node_ok (mt_leaf_ok (sp_if2)) (mt_node_ok (mt_leaf_ok (sp_aload)) (mt_leaf_ok (sp_get))))) (mt_node_ok (mt_node_ok (mt_leaf_ok (sp_push)) (mt_node_ok (mt_leaf_ok (sp_iload)) (mt_leaf_ok (rfl)))) (mt_node_ok (mt_leaf_ok (trivial)) (mt_node_ok (mt_leaf_ok (sp_push)) (mt_leaf_ok (sp_isto)))))) (mt_node_ok (mt_node_ok (mt_node_ok (mt_leaf_ok (sp_iload)) (mt_node_ok (mt_leaf_ok (sp_aload)) (mt_leaf_ok (sp_get)))) (mt_node_ok (mt_leaf_ok (sp_if2)) (mt_node_ok (mt_leaf_ok (sp_aload)) (mt_leaf_ok (sp_aload))))) (mt_node_ok (mt_node_ok (mt_leaf_ok (sp_aload)) (mt_node_ok (mt_leaf_ok (sp_get)) (mt_leaf_ok (sp_push)))) (mt_node_ok (mt_leaf_ok (sp_iload)) (mt_node_ok (mt_leaf_ok (sp_bin)) (mt_leaf_ok (sp_bin)))))))
theorem sr_30_1 {g : xe_G} : mt_all (spP srS) (mb_30_1 g) := mt_node_ok (mt_node_ok (mt_node_ok (mt_node_ok (mt_leaf_ok (rfl)) (mt_leaf_ok (sp_if))) (mt_node_ok (mt_leaf_ok (sp_aload)) (mt_node_ok (mt_leaf_ok (sp_get)) (mt_leaf_ok (sp_push))))) (mt_node_ok (mt_node_ok (mt_leaf_ok (sp_iload)) (mt_node_ok (mt_leaf_ok (rfl)) (mt_leaf_ok (trivial)))) (mt_node_ok (mt_leaf_ok (sp_iinc)) (mt_node_ok (mt_leaf_ok (sp_goto)) (mt_leaf_ok (sp_aload)))))) (mt_node_ok (mt_node_ok (mt_node_ok (mt_leaf_ok (sp_aload)) (mt_node_ok (mt_leaf_ok (sp_put)) (mt_leaf_ok (sp_aload)))) (mt_node_ok (mt_leaf_ok (sp_aload)) (mt_node_ok (mt_leaf_ok (sp_get)) (mt_leaf_ok (sp_push))))) (mt_node_ok (mt_node_ok (mt_leaf_ok (sp_aload)) (mt_node_ok (mt_leaf_ok (sp_get)) (mt_leaf_ok (sp_bin)))) (mt_node_ok (mt_leaf_ok (sp_bin)) (mt_node_ok (mt_leaf_ok (rfl)) (mt_leaf_ok (trivial))))))
theorem sr_30 {g : xe_G} : mt_all (spP srS) (mb_30 g).2.1 := mt_node_ok ((sr_30_0 (g := g))) ((sr_30_1 (g := g)))
theorem sr_31_0 {g : xe_G} : mt_all (spP srS) (mb_31_0 g) := mt_node_ok (mt_node_ok (mt_node_ok (mt_node_ok (mt_leaf_ok (sp_aload)) (mt_node_ok (mt_leaf_ok (sp_get)) (mt_leaf_ok (sp_iload)))) (mt_node_ok (mt_node_ok (mt_leaf_ok (sp_push)) (mt_leaf_ok (rfl))) (mt_node_ok (mt_leaf_ok (sp_if)) (mt_leaf_ok (sp_push))))) (mt_node_ok (mt_node_ok (mt_node_ok (mt_leaf_ok (trivial)) (mt_leaf_ok (sp_aload))) (mt_node_ok (mt_leaf_ok (sp_get)) (mt_leaf_ok (sp_iload)))) (mt_node_ok (mt_node_ok (mt_leaf_ok (rfl)) (mt_leaf_ok (sp_push))) (mt_node_ok (mt_leaf_ok (sp_if2)) (mt_leaf_ok (sp_push)))))) (mt_node_ok (mt_node_ok (mt_node_ok (mt_leaf_ok (trivial)) (mt_node_ok (mt_leaf_ok (sp_aload)) (mt_leaf_ok (sp_get)))) (mt_node_ok (mt_node_ok (mt_leaf_ok (sp_iload)) (mt_leaf_ok (sp_push))) (mt_node_ok (mt_leaf_ok (rfl)) (mt_leaf_ok (sp_sw))))) (mt_node_ok (mt_node_ok (mt_node_ok (mt_leaf_ok (sp_push)) (mt_leaf_ok (trivial))) (mt_node_ok (mt_leaf_ok (sp_push)) (mt_leaf_ok (trivial)))) (mt_node_ok (mt_node_ok (mt_leaf_ok (sp_push)) (mt_leaf_ok (trivial))) (mt_node_ok (mt_leaf_ok (sp_push)) (mt_leaf_ok (trivial))))))
theorem sr_31 {g : xe_G} : mt_all (spP srS) (mb_31 g).2.1 := (sr_31_0 (g := g))
theorem sr_32_0 {g : xe_G} : mt_all (spP srS) (mb_32_0 g) := mt_node_ok (mt_node_ok (mt_node_ok (mt_node_ok (mt_node_ok (mt_leaf_ok (sp_iload)) (mt_node_ok (mt_leaf_ok (sp_iload)) (mt_leaf_ok (sp_bin)))) (mt_node_ok (mt_leaf_ok (sp_push)) (mt_node_ok (mt_leaf_ok (sp_if2)) (mt_leaf_ok (sp_push))))) (mt_node_ok (mt_node_ok (mt_leaf_ok (trivial)) (mt_node_ok (mt_leaf_ok (sp_iload)) (mt_leaf_ok (sp_sw)))) (mt_node_ok (mt_leaf_ok (sp_iload)) (mt_node_ok (mt_leaf_ok (sp_push)) (mt_leaf_ok (sp_bin)))))) (mt_node_ok (mt_node_ok (mt_node_ok (mt_leaf_ok (trivial)) (mt_node_ok (mt_leaf_ok (sp_iload)) (mt_leaf_ok (sp_push)))) (mt_node_ok (mt_leaf_ok (sp_bin)) (mt_node_ok (mt_leaf_ok (sp_push)) (mt_leaf_ok (sp_aload))))) (mt_node_ok (mt_node_ok (mt_leaf_ok (sp_get)) (mt_node_ok (mt_leaf_ok (sp_iload)) (mt_leaf_ok (rfl)))) (mt_node_ok (mt_leaf_ok (sp_bin)) (mt_node_ok (mt_leaf_ok (sp_bin)) (mt_leaf_ok (trivial))))))) (mt_node_ok (mt_node_ok (mt_node_ok (mt_node_ok (mt_leaf_ok (sp_iload)) (mt_node_ok (mt_leaf_ok (sp_push)) (mt_leaf_ok (sp_bin)))) (mt_node_ok (mt_leaf_ok (sp_push)) (mt_node_ok (mt_leaf_ok (sp_aload)) (mt_leaf_ok (sp_get))))) (mt_node_ok (mt_node_ok (mt_leaf_ok (sp_iload)) (mt_node_ok (mt_leaf_ok (rfl)) (mt_leaf_ok (sp_bin)))) (mt_node_ok (mt_leaf_ok (sp_bin)) (mt_node_ok (mt_leaf_ok (trivial)) (mt_leaf_ok (sp_aload)))))) (mt_node_ok (mt_node_ok (mt_node_ok (mt_leaf_ok (sp_iload)) (mt_node_ok (mt_leaf_ok (sp_iload)) (mt_leaf_ok (rfl)))) (mt_node_ok (mt_leaf_ok (trivial)) (mt_node_ok (mt_leaf_ok (sp_aload)) (mt_leaf_ok (sp_iload))))) (mt_node_ok (mt_node_ok (mt_leaf_ok (sp_iload)) (mt_node_ok (mt_leaf_ok (rfl)) (mt_leaf_ok (trivial)))) (mt_node_ok (mt_leaf_ok (sp_aload)) (mt_node_ok (mt_leaf_ok (sp_iload)) (mt_leaf_ok (sp_iload)))))))
theorem sr_32_1 {g : xe_G} : mt_all (spP srS) (mb_32_1 g) := mt_node_ok (mt_leaf_ok (rfl)) (mt_leaf_ok (trivial))
theorem sr_32 {g : xe_G} : mt_all (spP srS) (mb_32 g).2.1 := mt_node_ok ((sr_32_0 (g := g))) ((sr_32_1 (g := g)))
theorem sr_33_0 {g : xe_G} : mt_all (spP srS) (mb_33_0 g) := mt_node_ok (mt_node_ok (mt_node_ok (mt_leaf_ok (sp_aload)) (mt_leaf_ok (sp_get))) (mt_node_ok (mt_leaf_ok (sp_iload)) (mt_node_ok (mt_leaf_ok (sp_bin)) (mt_leaf_ok (sp_push))))) (mt_node_ok (mt_node_ok (mt_leaf_ok (sp_bin)) (mt_node_ok (mt_leaf_ok (sp_if)) (mt_leaf_ok (sp_push)))) (mt_node_ok (mt_leaf_ok (sp_goto)) (mt_node_ok (mt_leaf_ok (sp_push)) (mt_leaf_ok (trivial)))))
theorem sr_33 {g : xe_G} : mt_all (spP srS) (mb_33 g).2.1 := (sr_33_0 (g := g))
theorem sr_34_0 {g : xe_G} : mt_all (spP srS) (mb_34_0 g) := mt_node_ok (mt_node_ok (mt_node_ok (mt_node_ok (mt_node_ok (mt_leaf_ok (sp_push)) (mt_node_ok (mt_leaf_ok (sp_isto)) (mt_leaf_ok (sp_iload)))) (mt_node_ok (mt_leaf_ok (sp_aload)) (mt_node_ok (mt_leaf_ok (sp_get)) (mt_leaf_ok (sp_get))))) (mt_node_ok (mt_node_ok (mt_leaf_ok (sp_if2)) (mt_node_ok (mt_leaf_ok (sp_iload)) (mt_leaf_ok (sp_push)))) (mt_node_ok (mt_leaf_ok (sp_bin)) (mt_node_ok (mt_leaf_ok (sp_push)) (mt_leaf_ok (sp_iload)))))) (mt_node_ok (mt_node_ok (mt_node_ok (mt_leaf_ok (sp_bin)) (mt_node_ok (mt_leaf_ok (sp_bin)) (mt_leaf_ok (sp_isto)))) (mt_node_ok (mt_leaf_ok (sp_aload)) (mt_node_ok (mt_leaf_ok (sp_get)) (mt_leaf_ok (sp_iload))))) (mt_node_ok (mt_node_ok (mt_leaf_ok (sp_push)) (mt_node_ok (mt_leaf_ok (sp_bin)) (mt_leaf_ok (rfl)))) (mt_node_ok (mt_leaf_ok (sp_isto)) (mt_node_ok (mt_leaf_ok (sp_aload)) (mt_leaf_ok (sp_get))))))) (mt_node_ok (mt_node_ok (mt_node_ok (mt_node_ok (mt_leaf_ok (sp_iload)) (mt_node_ok (mt_leaf_ok (sp_push)) (mt_leaf_ok (sp_bin)))) (mt_node_ok (mt_leaf_ok (rfl)) (mt_node_ok (mt_leaf_ok (sp_isto)) (mt_leaf_ok (sp_aload))))) (mt_node_ok (mt_node_ok (mt_leaf_ok (sp_get)) (mt_node_ok (mt_leaf_ok (sp_aload)) (mt_leaf_ok (sp_get)))) (mt_node_ok (mt_leaf_ok (sp_iload)) (mt_node_ok (mt_leaf_ok (rfl)) (mt_leaf_ok (rfl)))))) (mt_node_ok (mt_node_ok (mt_node_ok (mt_leaf_ok (sp_push)) (mt_node_ok (mt_leaf_ok (sp_if2)) (mt_leaf_ok (sp_iload)))) (mt_node_ok (mt_leaf_ok (sp_if)) (mt_node_ok (mt_leaf_ok (sp_aload)) (mt_leaf_ok (sp_get))))) (mt_node_ok (mt_node_ok (mt_leaf_ok (sp_iload)) (mt_node_ok (mt_leaf_ok (rfl)) (mt_leaf_ok (sp_push)))) (mt_node_ok (mt_leaf_ok (sp_if2)) (mt_node_ok (mt_leaf_ok (sp_iload)) (mt_leaf_ok (sp_if)))))))
theorem sr_34_1 {g : xe_G} : mt_all (spP srS) (mb_34_1 g) := mt_node_ok (mt_node_ok (mt_node_ok (mt_leaf_ok (sp_aload)) (mt_node_ok (mt_leaf_ok (sp_get)) (mt_leaf_ok (sp_iload)))) (mt_node_ok (mt_leaf_ok (rfl)) (mt_node_ok (mt_leaf_ok (sp_push)) (mt_leaf_ok (sp_if2))))) (mt_node_ok (mt_node_ok (mt_leaf_ok (sp_push)) (mt_node_ok (mt_leaf_ok (trivial)) (mt_leaf_ok (sp_iinc)))) (mt_node_ok (mt_leaf_ok (sp_goto)) (mt_node_ok (mt_leaf_ok (sp_push)) (mt_leaf_ok (trivial)))))
theorem sr_34 {g : xe_G} : mt_all (spP srS) (mb_34 g).2.1 := mt_node_ok ((sr_34_0 (g := g))) ((sr_34_1 (g := g)))
theorem sr_35_0 {g : xe_G} : mt_all (spP srS) (mb_35_0 g) := mt_node_ok (mt_node_ok (mt_node_ok (mt_node_ok (mt_leaf_ok (sp_iload)) (mt_leaf_ok (sp_push))) (mt_node_ok (mt_leaf_ok (sp_if2)) (mt_leaf_ok (sp_iload)))) (mt_node_ok (mt_node_ok (mt_leaf_ok (sp_push)) (mt_leaf_ok (sp_if2))) (mt_node_ok (mt_leaf_ok (sp_iload)) (mt_leaf_ok (sp_push))))) (mt_node_ok (mt_node_ok (mt_node_ok (mt_leaf_ok (sp_if2)) (mt_leaf_ok (sp_iload))) (mt_node_ok (mt_leaf_ok (sp_push)) (mt_leaf_ok (sp_if2)))) (mt_node_ok (mt_node_ok (mt_leaf_ok (sp_push)) (mt_leaf_ok (sp_goto))) (mt_node_ok (mt_leaf_ok (sp_push)) (mt_leaf_ok (trivial)))))
theorem sr_35 {g : xe_G} : mt_all (spP srS) (mb_35 g).2.1 := (sr_35_0 (g := g))
theorem sr_36_0 {g : xe_G} : mt_all (spP srS) (mb_36_0 g) := mt_node_ok (mt_node_ok (mt_node_ok (mt_node_ok (mt_node_ok (mt_leaf_ok (sp_aload)) (mt_leaf_ok (sp_get))) (mt_node_ok (mt_leaf_ok (sp_aload)) (mt_leaf_ok (sp_get)))) (mt_node_ok (mt_node_ok (mt_leaf_ok (sp_iload)) (mt_leaf_ok (rfl))) (mt_node_ok (mt_leaf_ok (rfl)) (mt_node_ok (mt_leaf_ok (sp_push)) (mt_leaf_ok (sp_if2)))))) (mt_node_ok (mt_node_ok (mt_node_ok (mt_leaf_ok (sp_aload)) (mt_leaf_ok (sp_get))) (mt_node_ok (mt_leaf_ok (sp_push)) (mt_node_ok (mt_leaf_ok (sp_iload)) (mt_leaf_ok (rfl))))) (mt_node_ok (mt_node_ok (mt_leaf_ok (trivial)) (mt_leaf_ok (sp_iload))) (mt_node_ok (mt_leaf_ok (sp_if)) (mt_node_ok (mt_leaf_ok (sp_push)) (mt_leaf_ok (trivial))))))) (mt_node_ok (mt_node_ok (mt_node_ok (mt_node_ok (mt_leaf_ok (sp_aload)) (mt_leaf_ok (sp_iload))) (mt_node_ok (mt_leaf_ok (rfl)) (mt_node_ok (mt_leaf_ok (sp_if)) (mt_leaf_ok (sp_aload))))) (mt_node_ok (mt_node_ok (mt_leaf_ok (sp_get)) (mt_leaf_ok (sp_push))) (mt_node_ok (mt_leaf_ok (sp_iload)) (mt_node_ok (mt_leaf_ok (rfl)) (mt_leaf_ok (trivial)))))) (mt_node_ok (mt_node_ok (mt_node_ok (mt_leaf_ok (sp_aload)) (mt_leaf_ok (sp_dup))) (mt_node_ok (mt_leaf_ok (sp_get)) (mt_node_ok (mt_leaf_ok (sp_push)) (mt_leaf_ok (sp_iload))))) (mt_node_ok (mt_node_ok (mt_leaf_ok (sp_bin)) (mt_leaf_ok (sp_bin))) (mt_node_ok (mt_leaf_ok (sp_put)) (mt_node_ok (mt_leaf_ok (sp_push)) (mt_leaf_ok (trivial)))))))
theorem sr_36 {g : xe_G} : mt_all (spP srS) (mb_36 g).2.1 := (sr_36_0 (g := g))
theorem sr_37_0 {g : xe_G} : mt_all (spP srS) (mb_37_0 g) := mt_node_ok (mt_node_ok (mt_node_ok (mt_node_ok (mt_leaf_ok (sp_aload)) (mt_leaf_ok (sp_get))) (mt_node_ok (mt_leaf_ok (sp_iload)) (mt_leaf_ok (sp_push)))) (mt_node_ok (mt_node_ok (mt_leaf_ok (rfl)) (mt_leaf_ok (sp_if))) (mt_node_ok (mt_leaf_ok (sp_push)) (mt_node_ok (mt_leaf_ok (trivial)) (mt_leaf_ok (sp_aload)))))) (mt_node_ok (mt_node_ok (mt_node_ok (mt_leaf_ok (sp_get)) (mt_leaf_ok (sp_iload))) (mt_node_ok (mt_leaf_ok (sp_push)) (mt_leaf_ok (rfl)))) (mt_node_ok (mt_node_ok (mt_leaf_ok (sp_if)) (mt_leaf_ok (sp_push))) (mt_node_ok (mt_leaf_ok (sp_goto)) (mt_node_ok (mt_leaf_ok (sp_push)) (mt_leaf_ok (trivial))))))
theorem sr_37 {g : xe_G} : mt_all (spP srS) (mb_37 g).2.1 := (sr_37_0 (g := g))
theorem sr_38_0 {g : xe_G} : mt_all (spP srS) (mb_38_0 g) := mt_node_ok (mt_node_ok (mt_node_ok (mt_node_ok (mt_node_ok (mt_leaf_ok (sp_aload)) (mt_node_ok (mt_leaf_ok (sp_push)) (mt_leaf_ok (sp_put)))) (mt_node_ok (mt_leaf_ok (sp_aload)) (mt_node_ok (mt_leaf_ok (sp_get)) (mt_leaf_ok (sp_get))))) (mt_node_ok (mt_node_ok (mt_leaf_ok (sp_isto)) (mt_node_ok (mt_leaf_ok (sp_push)) (mt_leaf_ok (sp_isto)))) (mt_node_ok (mt_leaf_ok (sp_iload)) (mt_node_ok (mt_leaf_ok (sp_aload)) (mt_leaf_ok (sp_get)))))) (mt_node_ok (mt_node_ok (mt_node_ok (mt_leaf_ok (sp_get)) (mt_node_ok (mt_leaf_ok (sp_if2)) (mt_leaf_ok (sp_aload)))) (mt_node_ok (mt_leaf_ok (sp_aload)) (mt_node_ok (mt_leaf_ok (sp_get)) (mt_leaf_ok (sp_iload))))) (mt_node_ok (mt_node_ok (mt_leaf_ok (rfl)) (mt_node_ok (mt_leaf_ok (rfl)) (mt_leaf_ok (sp_isto)))) (mt_node_ok (mt_leaf_ok (sp_aload)) (mt_node_ok (mt_leaf_ok (sp_iload)) (mt_leaf_ok (sp_iload))))))) (mt_node_ok (mt_node_ok (mt_node_ok (mt_node_ok (mt_leaf_ok (rfl)) (mt_node_ok (mt_leaf_ok (sp_if)) (mt_leaf_ok (sp_push)))) (mt_node_ok (mt_leaf_ok (trivial)) (mt_node_ok (mt_leaf_ok (sp_iload)) (mt_leaf_ok (sp_if))))) (mt_node_ok (mt_node_ok (mt_leaf_ok (sp_aload)) (mt_node_ok (mt_leaf_ok (sp_iload)) (mt_leaf_ok (sp_iload)))) (mt_node_ok (mt_leaf_ok (sp_push)) (mt_node_ok (mt_leaf_ok (sp_bin)) (mt_leaf_ok (sp_aload)))))) (mt_node_ok (mt_node_ok (mt_node_ok (mt_leaf_ok (sp_iload)) (mt_node_ok (mt_leaf_ok (rfl)) (mt_leaf_ok (rfl)))) (mt_node_ok (mt_leaf_ok (sp_aload)) (mt_node_ok (mt_leaf_ok (sp_iload)) (mt_leaf_ok (rfl))))) (mt_node_ok (mt_node_ok (mt_leaf_ok (sp_if2)) (mt_node_ok (mt_leaf_ok (sp_aload)) (mt_leaf_ok (sp_get)))) (mt_node_ok (mt_leaf_ok (sp_push)) (mt_node_ok (mt_leaf_ok (sp_iload)) (mt_leaf_ok (rfl)))))))
theorem sr_38_1 {g : xe_G} : mt_all (spP srS) (mb_38_1 g) := mt_node_ok (mt_node_ok (mt_node_ok (mt_node_ok (mt_node_ok (mt_leaf_ok (trivial)) (mt_leaf_ok (sp_aload))) (mt_node_ok (mt_leaf_ok (sp_iload)) (mt_leaf_ok (sp_iload)))) (mt_node_ok (mt_node_ok (mt_leaf_ok (rfl)) (mt_leaf_ok (sp_isto))) (mt_node_ok (mt_leaf_ok (sp_iload)) (mt_leaf_ok (sp_if))))) (mt_node_ok (mt_node_ok (mt_node_ok (mt_leaf_ok (sp_iload)) (mt_leaf_ok (sp_if))) (mt_node_ok (mt_leaf_ok (sp_push)) (mt_leaf_ok (sp_goto)))) (mt_node_ok (mt_node_ok (mt_leaf_ok (sp_aload)) (mt_leaf_ok (sp_get))) (mt_node_ok (mt_leaf_ok (sp_iload)) (mt_leaf_ok (sp_iload)))))) (mt_node_ok (mt_node_ok (mt_node_ok (mt_node_ok (mt_leaf_ok (rfl)) (mt_leaf_ok (trivial))) (mt_node_ok (mt_leaf_ok (sp_aload)) (mt_leaf_ok (sp_iload)))) (mt_node_ok (mt_node_ok (mt_leaf_ok (rfl)) (mt_leaf_ok (sp_isto))) (mt_node_ok (mt_leaf_ok (sp_iinc)) (mt_leaf_ok (sp_goto))))) (mt_node_ok (mt_node_ok (mt_node_ok (mt_leaf_ok (sp_aload)) (mt_leaf_ok (sp_get))) (mt_node_ok (mt_leaf_ok (sp_aload)) (mt_leaf_ok (sp_get)))) (mt_node_ok (mt_node_ok (mt_leaf_ok (rfl)) (mt_leaf_ok (sp_put))) (mt_node_ok (mt_leaf_ok (sp_push)) (mt_leaf_ok (trivial))))))
theorem sr_38 {g : xe_G} : mt_all (spP srS) (mb_38 g).2.1 := mt_node_ok ((sr_38_0 (g := g))) ((sr_38_1 (g := g)))
theorem sr_39_0 {g : xe_G} : mt_all (spP srS) (mb_39_0 g) := mt_node_ok (mt_node_ok (mt_node_ok (mt_node_ok (mt_node_ok (mt_leaf_ok (sp_aload)) (mt_node_ok (mt_leaf_ok (sp_push)) (mt_leaf_ok (sp_put)))) (mt_node_ok (mt_leaf_ok (sp_aload)) (mt_node_ok (mt_leaf_ok (sp_get)) (mt_leaf_ok (sp_isto))))) (mt_node_ok (mt_node_ok (mt_leaf_ok (sp_push)) (mt_node_ok (mt_leaf_ok (sp_isto)) (mt_leaf_ok (sp_iload)))) (mt_node_ok (mt_leaf_ok (sp_aload)) (mt_node_ok (mt_leaf_ok (sp_get)) (mt_leaf_ok (sp_if2)))))) (mt_node_ok (mt_node_ok (mt_node_ok (mt_leaf_ok (sp_aload)) (mt_node_ok (mt_leaf_ok (sp_get)) (mt_leaf_ok (sp_aload)))) (mt_node_ok (mt_leaf_ok (sp_get)) (mt_node_ok (mt_leaf_ok (sp_iload)) (mt_leaf_ok (rfl))))) (mt_node_ok (mt_node_ok (mt_leaf_ok (sp_push)) (mt_node_ok (mt_leaf_ok (rfl)) (mt_leaf_ok (sp_if)))) (mt_node_ok (mt_leaf_ok (sp_push)) (mt_node_ok (mt_leaf_ok (sp_goto)) (mt_leaf_ok (sp_push))))))) (mt_node_ok (mt_node_ok (mt_node_ok (mt_node_ok (mt_leaf_ok (sp_isto)) (mt_node_ok (mt_leaf_ok (sp_aload)) (mt_leaf_ok (sp_iload)))) (mt_node_ok (mt_leaf_ok (sp_iload)) (mt_node_ok (mt_leaf_ok (rfl)) (mt_leaf_ok (sp_if))))) (mt_node_ok (mt_node_ok (mt_leaf_ok (sp_push)) (mt_node_ok (mt_leaf_ok (trivial)) (mt_leaf_ok (sp_iload)))) (mt_node_ok (mt_leaf_ok (sp_if)) (mt_node_ok (mt_leaf_ok (sp_aload)) (mt_leaf_ok (sp_iload)))))) (mt_node_ok (mt_node_ok (mt_node_ok (mt_leaf_ok (sp_iload)) (mt_node_ok (mt_leaf_ok (sp_push)) (mt_leaf_ok (sp_bin)))) (mt_node_ok (mt_leaf_ok (sp_aload)) (mt_node_ok (mt_leaf_ok (sp_iload)) (mt_leaf_ok (rfl))))) (mt_node_ok (mt_node_ok (mt_leaf_ok (rfl)) (mt_node_ok (mt_leaf_ok (sp_aload)) (mt_leaf_ok (sp_iload)))) (mt_node_ok (mt_leaf_ok (rfl)) (mt_node_ok (mt_leaf_ok (sp_if2)) (mt_leaf_ok (sp_aload)))))))
theorem sr_39_1 {g : xe_G} : mt_all (spP srS) (mb_39_1 g) := mt_node_ok (mt_node_ok (mt_node_ok (mt_node_ok (mt_node_ok (mt_leaf_ok (sp_get)) (mt_node_ok (mt_leaf_ok (sp_push)) (mt_leaf_ok (sp_iload)))) (mt_node_ok (mt_leaf_ok (rfl)) (mt_node_ok (mt_leaf_ok (trivial)) (mt_leaf_ok (sp_iload))))) (mt_node_ok (mt_node_ok (mt_leaf_ok (sp_push)) (mt_node_ok (mt_leaf_ok (sp_if2)) (mt_leaf_ok (sp_aload)))) (mt_node_ok (mt_leaf_ok (sp_push)) (mt_node_ok (mt_leaf_ok (rfl)) (mt_leaf_ok (sp_if)))))) (mt_node_ok (mt_node_ok (mt_node_ok (mt_leaf_ok (sp_aload)) (mt_node_ok (mt_leaf_ok (sp_aload)) (mt_leaf_ok (sp_get)))) (mt_node_ok (mt_leaf_ok (sp_iload)) (mt_node_ok (mt_leaf_ok (sp_push)) (mt_leaf_ok (sp_bin))))) (mt_node_ok (mt_node_ok (mt_leaf_ok (rfl)) (mt_node_ok (mt_leaf_ok (sp_put)) (mt_leaf_ok (sp_aload)))) (mt_node_ok (mt_leaf_ok (sp_get)) (mt_node_ok (mt_leaf_ok (sp_aload)) (mt_leaf_ok (sp_get))))))) (mt_node_ok (mt_node_ok (mt_node_ok (mt_node_ok (mt_leaf_ok (rfl)) (mt_node_ok (mt_leaf_ok (sp_aload)) (mt_leaf_ok (sp_aload)))) (mt_node_ok (mt_leaf_ok (sp_get)) (mt_node_ok (mt_leaf_ok (rfl)) (mt_leaf_ok (sp_if2))))) (mt_node_ok (mt_node_ok (mt_leaf_ok (sp_aload)) (mt_node_ok (mt_leaf_ok (sp_get)) (mt_leaf_ok (sp_push)))) (mt_node_ok (mt_leaf_ok (sp_iload)) (mt_node_ok (mt_leaf_ok (rfl)) (mt_leaf_ok (trivial)))))) (mt_node_ok (mt_node_ok (mt_node_ok (mt_leaf_ok (sp_aload)) (mt_node_ok (mt_leaf_ok (sp_iload)) (mt_leaf_ok (rfl)))) (mt_node_ok (mt_leaf_ok (sp_isto)) (mt_node_ok (mt_leaf_ok (sp_iinc)) (mt_leaf_ok (sp_goto))))) (mt_node_ok (mt_node_ok (mt_leaf_ok (sp_aload)) (mt_node_ok (mt_leaf_ok (sp_aload)) (mt_leaf_ok (sp_get)))) (mt_node_ok (mt_leaf_ok (rfl)) (mt_node_ok (mt_leaf_ok (sp_put)) (mt_leaf_ok (sp_push)))))))
theorem sr_39_2 {g : xe_G} : mt_all (spP srS) (mb_39_2 g) := mt_leaf_ok (trivial)
theorem sr_39 {g : xe_G} : mt_all (spP srS) (mb_39 g).2.1 := mt_node_ok ((sr_39_0 (g := g))) (mt_node_ok ((sr_39_1 (g := g))) ((sr_39_2 (g := g))))
theorem sr_40_0 {g : xe_G} : mt_all (spP srS) (mb_40_0 g) := mt_node_ok (mt_node_ok (mt_node_ok (mt_node_ok (mt_node_ok (mt_leaf_ok (sp_aload)) (mt_node_ok (mt_leaf_ok (sp_push)) (mt_leaf_ok (sp_put)))) (mt_node_ok (mt_leaf_ok (sp_aload)) (mt_node_ok (mt_leaf_ok (sp_get)) (mt_leaf_ok (sp_isto))))) (mt_node_ok (mt_node_ok (mt_leaf_ok (sp_push)) (mt_node_ok (mt_leaf_ok (sp_isto)) (mt_leaf_ok (sp_iload)))) (mt_node_ok (mt_leaf_ok (sp_aload)) (mt_node_ok (mt_leaf_ok (sp_get)) (mt_leaf_ok (sp_if2)))))) (mt_node_ok (mt_node_ok (mt_node_ok (mt_leaf_ok (sp_aload)) (mt_node_ok (mt_leaf_ok (sp_aload)) (mt_leaf_ok (sp_get)))) (mt_node_ok (mt_leaf_ok (sp_iload)) (mt_node_ok (mt_leaf_ok (rfl)) (mt_leaf_ok (rfl))))) (mt_node_ok (mt_node_ok (mt_leaf_ok (sp_isto)) (mt_node_ok (mt_leaf_ok (sp_aload)) (mt_leaf_ok (sp_iload)))) (mt_node_ok (mt_leaf_ok (sp_iload)) (mt_node_ok (mt_leaf_ok (rfl)) (mt_leaf_ok (sp_if))))))) (mt_node_ok (mt_node_ok (mt_node_ok (mt_node_ok (mt_leaf_ok (sp_push)) (mt_node_ok (mt_leaf_ok (trivial)) (mt_leaf_ok (sp_iload)))) (mt_node_ok (mt_leaf_ok (sp_if)) (mt_node_ok (mt_leaf_ok (sp_aload)) (mt_leaf_ok (sp_iload))))) (mt_node_ok (mt_node_ok (mt_leaf_ok (sp_iload)) (mt_node_ok (mt_leaf_ok (sp_push)) (mt_leaf_ok (sp_bin)))) (mt_node_ok (mt_leaf_ok (sp_aload)) (mt_node_ok (mt_leaf_ok (sp_iload)) (mt_leaf_ok (rfl)))))) (mt_node_ok (mt_node_ok (mt_node_ok (mt_leaf_ok (rfl)) (mt_node_ok (mt_leaf_ok (sp_aload)) (mt_leaf_ok (sp_iload)))) (mt_node_ok (mt_leaf_ok (rfl)) (mt_node_ok (mt_leaf_ok (sp_if2)) (mt_leaf_ok (sp_aload))))) (mt_node_ok (mt_node_ok (mt_leaf_ok (sp_get)) (mt_node_ok (mt_leaf_ok (sp_push)) (mt_leaf_ok (sp_iload)))) (mt_node_ok (mt_leaf_ok (rfl)) (mt_node_ok (mt_leaf_ok (trivial)) (mt_leaf_ok (sp_iload)))))))
theorem sr_40_1 {g : xe_G} : mt_all (spP srS) (mb_40_1 g) := mt_node_ok (mt_node_ok (mt_node_ok (mt_node_ok (mt_node_ok (mt_leaf_ok (sp_push)) (mt_leaf_ok (sp_if2))) (mt_node_ok (mt_leaf_ok (sp_aload)) (mt_node_ok (mt_leaf_ok (sp_aload)) (mt_leaf_ok (sp_iload))))) (mt_node_ok (mt_node_ok (mt_leaf_ok (rfl)) (mt_node_ok (mt_leaf_ok (sp_if)) (mt_leaf_ok (sp_push)))) (mt_node_ok (mt_leaf_ok (trivial)) (mt_node_ok (mt_leaf_ok (sp_iload)) (mt_leaf_ok (sp_push)))))) (mt_node_ok (mt_node_ok (mt_node_ok (mt_leaf_ok (sp_if2)) (mt_leaf_ok (sp_aload))) (mt_node_ok (mt_leaf_ok (sp_aload)) (mt_node_ok (mt_leaf_ok (sp_get)) (mt_leaf_ok (sp_iload))))) (mt_node_ok (mt_node_ok (mt_leaf_ok (sp_push)) (mt_node_ok (mt_leaf_ok (sp_bin)) (mt_leaf_ok (rfl)))) (mt_node_ok (mt_leaf_ok (sp_put)) (mt_node_ok (mt_leaf_ok (sp_aload)) (mt_leaf_ok (sp_iload))))))) (mt_node_ok (mt_node_ok (mt_node_ok (mt_node_ok (mt_leaf_ok (rfl)) (mt_leaf_ok (sp_if))) (mt_node_ok (mt_leaf_ok (sp_aload)) (mt_node_ok (mt_leaf_ok (sp_get)) (mt_leaf_ok (sp_push))))) (mt_node_ok (mt_node_ok (mt_leaf_ok (sp_iload)) (mt_node_ok (mt_leaf_ok (rfl)) (mt_leaf_ok (trivial)))) (mt_node_ok (mt_leaf_ok (sp_aload)) (mt_node_ok (mt_leaf_ok (sp_iload)) (mt_leaf_ok (rfl)))))) (mt_node_ok (mt_node_ok (mt_node_ok (mt_leaf_ok (sp_isto)) (mt_node_ok (mt_leaf_ok (sp_iinc)) (mt_leaf_ok (sp_goto)))) (mt_node_ok (mt_leaf_ok (sp_aload)) (mt_node_ok (mt_leaf_ok (sp_aload)) (mt_leaf_ok (sp_get))))) (mt_node_ok (mt_node_ok (mt_leaf_ok (sp_push)) (mt_node_ok (mt_leaf_ok (sp_bin)) (mt_leaf_ok (rfl)))) (mt_node_ok (mt_leaf_ok (sp_put)) (mt_node_ok (mt_leaf_ok (sp_push)) (mt_leaf_ok (trivial)))))))
theorem sr_40 {g : xe_G} : mt_all (spP srS) (mb_40 g).2.1 := mt_node_ok ((sr_40_0 (g := g))) ((sr_40_1 (g := g)))
theorem sr_41_0 {g : xe_G} : mt_all (spP srS) (mb_41_0 g) := mt_node_ok (mt_node_ok (mt_node_ok (mt_node_ok (mt_node_ok (mt_leaf_ok (sp_aload)) (mt_leaf_ok (sp_get))) (mt_node_ok (mt_leaf_ok (sp_iload)) (mt_node_ok (mt_leaf_ok (rfl)) (mt_leaf_ok (sp_isto))))) (mt_node_ok (mt_node_ok (mt_leaf_ok (sp_iload)) (mt_leaf_ok (sp_push))) (mt_node_ok (mt_leaf_ok (sp_bin)) (mt_node_ok (mt_leaf_ok (sp_isto)) (mt_leaf_ok (sp_push)))))) (mt_node_ok (mt_node_ok (mt_node_ok (mt_leaf_ok (sp_isto)) (mt_leaf_ok (sp_iload))) (mt_node_ok (mt_leaf_ok (sp_iload)) (mt_node_ok (mt_leaf_ok (sp_if2)) (mt_leaf_ok (sp_iload))))) (mt_node_ok (mt_node_ok (mt_leaf_ok (sp_iload)) (mt_node_ok (mt_leaf_ok (sp_bin)) (mt_leaf_ok (sp_push)))) (mt_node_ok (mt_leaf_ok (sp_if2)) (mt_node_ok (mt_leaf_ok (sp_push)) (mt_leaf_ok (trivial))))))) (mt_node_ok (mt_node_ok (mt_node_ok (mt_node_ok (mt_leaf_ok (sp_aload)) (mt_leaf_ok (sp_get))) (mt_node_ok (mt_leaf_ok (sp_iload)) (mt_node_ok (mt_leaf_ok (sp_push)) (mt_leaf_ok (sp_bin))))) (mt_node_ok (mt_node_ok (mt_leaf_ok (sp_aload)) (mt_node_ok (mt_leaf_ok (sp_get)) (mt_leaf_ok (sp_iload)))) (mt_node_ok (mt_leaf_ok (sp_push)) (mt_node_ok (mt_leaf_ok (sp_bin)) (mt_leaf_ok (rfl)))))) (mt_node_ok (mt_node_ok (mt_node_ok (mt_leaf_ok (sp_iload)) (mt_leaf_ok (rfl))) (mt_node_ok (mt_leaf_ok (sp_isto)) (mt_node_ok (mt_leaf_ok (sp_iload)) (mt_leaf_ok (sp_if))))) (mt_node_ok (mt_node_ok (mt_leaf_ok (sp_push)) (mt_node_ok (mt_leaf_ok (trivial)) (mt_leaf_ok (sp_iinc)))) (mt_node_ok (mt_leaf_ok (sp_goto)) (mt_node_ok (mt_leaf_ok (sp_iload)) (mt_leaf_ok (trivial)))))))
theorem sr_41 {g : xe_G} : mt_all (spP srS) (mb_41 g).2.1 := (sr_41_0 (g := g))
theorem sr_42_0 {g : xe_G} : mt_all (spP srS) (mb_42_0 g) := mt_node_ok (mt_node_ok (mt_node_ok (mt_node_ok (mt_node_ok (mt_leaf_ok (sp_iload)) (mt_node_ok (mt_leaf_ok (sp_push)) (mt_leaf_ok (sp_bin)))) (mt_node_ok (mt_leaf_ok (sp_isto)) (mt_node_ok (mt_leaf_ok (sp_push)) (mt_leaf_ok (sp_isto))))) (mt_node_ok (mt_node_ok (mt_leaf_ok (sp_iload)) (mt_node_ok (mt_leaf_ok (sp_aload)) (mt_leaf_ok (sp_get)))) (mt_node_ok (mt_leaf_ok (sp_get)) (mt_node_ok (mt_leaf_ok (sp_if2)) (mt_leaf_ok (sp_aload)))))) (mt_node_ok (mt_node_ok (mt_node_ok (mt_leaf_ok (sp_get)) (mt_node_ok (mt_leaf_ok (sp_aload)) (mt_leaf_ok (sp_get)))) (mt_node_ok (mt_leaf_ok (sp_iload)) (mt_node_ok (mt_leaf_ok (rfl)) (mt_leaf_ok (rfl))))) (mt_node_ok (mt_node_ok (mt_leaf_ok (sp_if)) (mt_node_ok (mt_leaf_ok (sp_aload)) (mt_leaf_ok (sp_get)))) (mt_node_ok (mt_leaf_ok (sp_aload)) (mt_node_ok (mt_leaf_ok (sp_get)) (mt_leaf_ok (sp_iload))))))) (mt_node_ok (mt_node_ok (mt_node_ok (mt_node_ok (mt_leaf_ok (sp_push)) (mt_node_ok (mt_leaf_ok (sp_bin)) (mt_leaf_ok (rfl)))) (mt_node_ok (mt_leaf_ok (rfl)) (mt_node_ok (mt_leaf_ok (sp_if)) (mt_leaf_ok (sp_aload))))) (mt_node_ok (mt_node_ok (mt_leaf_ok (sp_get)) (mt_node_ok (mt_leaf_ok (sp_push)) (mt_leaf_ok (sp_iload)))) (mt_node_ok (mt_leaf_ok (rfl)) (mt_node_ok (mt_leaf_ok (trivial)) (mt_leaf_ok (sp_aload)))))) (mt_node_ok (mt_node_ok (mt_node_ok (mt_leaf_ok (sp_get)) (mt_node_ok (mt_leaf_ok (sp_iload)) (mt_leaf_ok (sp_push)))) (mt_node_ok (mt_leaf_ok (sp_bin)) (mt_node_ok (mt_leaf_ok (rfl)) (mt_leaf_ok (sp_isto))))) (mt_node_ok (mt_node_ok (mt_leaf_ok (sp_iinc)) (mt_node_ok (mt_leaf_ok (sp_push)) (mt_leaf_ok (sp_isto)))) (mt_node_ok (mt_leaf_ok (sp_iload)) (mt_node_ok (mt_leaf_ok (sp_iload)) (mt_leaf_ok (sp_if2)))))))
theorem sr_42_1 {g : xe_G} : mt_all (spP srS) (mb_42_1 g) := mt_node_ok (mt_node_ok (mt_node_ok (mt_node_ok (mt_leaf_ok (sp_aload)) (mt_leaf_ok (sp_iload))) (mt_node_ok (mt_leaf_ok (sp_push)) (mt_leaf_ok (rfl)))) (mt_node_ok (mt_node_ok (mt_leaf_ok (sp_if)) (mt_leaf_ok (sp_push))) (mt_node_ok (mt_leaf_ok (trivial)) (mt_leaf_ok (sp_aload))))) (mt_node_ok (mt_node_ok (mt_node_ok (mt_leaf_ok (sp_iload)) (mt_leaf_ok (rfl))) (mt_node_ok (mt_leaf_ok (sp_isto)) (mt_leaf_ok (sp_iinc)))) (mt_node_ok (mt_node_ok (mt_leaf_ok (sp_goto)) (mt_leaf_ok (sp_iinc))) (mt_node_ok (mt_leaf_ok (sp_goto)) (mt_node_ok (mt_leaf_ok (sp_push)) (mt_leaf_ok (trivial))))))
theorem sr_42 {g : xe_G} : mt_all (spP srS) (mb_42 g).2.1 := mt_node_ok ((sr_42_0 (g := g))) ((sr_42_1 (g := g)))
theorem sr_43_0 {g : xe_G} : mt_all (spP srS) (mb_43_0 g) := mt_node_ok (mt_node_ok (mt_node_ok (mt_node_ok (mt_node_ok (mt_leaf_ok (sp_aload)) (mt_leaf_ok (sp_get))) (mt_node_ok (mt_leaf_ok (sp_iload)) (mt_node_ok (mt_leaf_ok (sp_push)) (mt_leaf_ok (sp_bin))))) (mt_node_ok (mt_node_ok (mt_leaf_ok (rfl)) (mt_node_ok (mt_leaf_ok (sp_isto)) (mt_leaf_ok (sp_aload)))) (mt_node_ok (mt_leaf_ok (sp_get)) (mt_node_ok (mt_leaf_ok (sp_iload)) (mt_leaf_ok (sp_push)))))) (mt_node_ok (mt_node_ok (mt_node_ok (mt_leaf_ok (sp_bin)) (mt_leaf_ok (rfl))) (mt_node_ok (mt_leaf_ok (sp_isto)) (mt_node_ok (mt_leaf_ok (sp_aload)) (mt_leaf_ok (sp_get))))) (mt_node_ok (mt_node_ok (mt_leaf_ok (sp_iload)) (mt_node_ok (mt_leaf_ok (rfl)) (mt_leaf_ok (sp_iload)))) (mt_node_ok (mt_leaf_ok (sp_if2)) (mt_node_ok (mt_leaf_ok (sp_iload)) (mt_leaf_ok (sp_aload))))))) (mt_node_ok (mt_node_ok (mt_node_ok (mt_node_ok (mt_leaf_ok (sp_get)) (mt_leaf_ok (sp_if2))) (mt_node_ok (mt_leaf_ok (sp_aload)) (mt_node_ok (mt_leaf_ok (sp_get)) (mt_leaf_ok (sp_iload))))) (mt_node_ok (mt_node_ok (mt_leaf_ok (sp_push)) (mt_node_ok (mt_leaf_ok (sp_bin)) (mt_leaf_ok (rfl)))) (mt_node_ok (mt_leaf_ok (sp_aload)) (mt_node_ok (mt_leaf_ok (sp_get)) (mt_leaf_ok (sp_if2)))))) (mt_node_ok (mt_node_ok (mt_node_ok (mt_leaf_ok (sp_iload)) (mt_node_ok (mt_leaf_ok (sp_if)) (mt_leaf_ok (sp_aload)))) (mt_node_ok (mt_leaf_ok (sp_get)) (mt_node_ok (mt_leaf_ok (sp_iload)) (mt_leaf_ok (rfl))))) (mt_node_ok (mt_node_ok (mt_leaf_ok (sp_push)) (mt_node_ok (mt_leaf_ok (sp_if2)) (mt_leaf_ok (sp_push)))) (mt_node_ok (mt_leaf_ok (sp_goto)) (mt_node_ok (mt_leaf_ok (sp_push)) (mt_leaf_ok (trivial)))))))
theorem sr_43 {g : xe_G} : mt_all (spP srS) (mb_43 g).2.1 := (sr_43_0 (g := g))
theorem sr_44_0 {g : xe_G} : mt_all (spP srS) (mb_44_0 g) := mt_node_ok (mt_node_ok (mt_leaf_ok (sp_aload)) (mt_node_ok (mt_leaf_ok (sp_drop)) (mt_leaf_ok (sp_aload)))) (mt_node_ok (mt_leaf_ok (sp_aload)) (mt_node_ok (mt_leaf_ok (sp_put)) (mt_leaf_ok (trivial))))
theorem sr_44 {g : xe_G} : mt_all (spP srS) (mb_44 g).2.1 := (sr_44_0 (g := g))
theorem sr_45_0 {g : xe_G} : mt_all (spP srS) (mb_45_0 g) := mt_node_ok (mt_node_ok (mt_node_ok (mt_node_ok (mt_node_ok (mt_leaf_ok (sp_iload)) (mt_leaf_ok (sp_isto))) (mt_node_ok (mt_leaf_ok (sp_push)) (mt_node_ok (mt_leaf_ok (sp_isto)) (mt_leaf_ok (sp_iload))))) (mt_node_ok (mt_node_ok (mt_leaf_ok (sp_iload)) (mt_leaf_ok (sp_if2))) (mt_node_ok (mt_leaf_ok (sp_iload)) (mt_node_ok (mt_leaf_ok (sp_iload)) (mt_leaf_ok (sp_bin)))))) (mt_node_ok (mt_node_ok (mt_node_ok (mt_leaf_ok (sp_push)) (mt_leaf_ok (sp_if2))) (mt_node_ok (mt_leaf_ok (sp_push)) (mt_node_ok (mt_leaf_ok (trivial)) (mt_leaf_ok (sp_aload))))) (mt_node_ok (mt_node_ok (mt_leaf_ok (sp_iload)) (mt_leaf_ok (sp_push))) (mt_node_ok (mt_leaf_ok (sp_bin)) (mt_node_ok (mt_leaf_ok (rfl)) (mt_leaf_ok (sp_isto))))))) (mt_node_ok (mt_node_ok (mt_node_ok (mt_node_ok (mt_leaf_ok (sp_iload)) (mt_leaf_ok (sp_if))) (mt_node_ok (mt_leaf_ok (sp_iload)) (mt_node_ok (mt_leaf_ok (sp_iload)) (mt_leaf_ok (sp_iload))))) (mt_node_ok (mt_node_ok (mt_leaf_ok (sp_bin)) (mt_leaf_ok (sp_push))) (mt_node_ok (mt_leaf_ok (sp_bin)) (mt_node_ok (mt_leaf_ok (sp_if2)) (mt_leaf_ok (sp_push)))))) (mt_node_ok (mt_node_ok (mt_node_ok (mt_leaf_ok (trivial)) (mt_leaf_ok (sp_iload))) (mt_node_ok (mt_leaf_ok (sp_push)) (mt_node_ok (mt_leaf_ok (sp_iload)) (mt_leaf_ok (sp_bin))))) (mt_node_ok (mt_node_ok (mt_leaf_ok (sp_bin)) (mt_node_ok (mt_leaf_ok (sp_isto)) (mt_leaf_ok (sp_iinc)))) (mt_node_ok (mt_leaf_ok (sp_goto)) (mt_node_ok (mt_leaf_ok (sp_iload)) (mt_leaf_ok (trivial)))))))
theorem sr_45 {g : xe_G} : mt_all (spP srS) (mb_45 g).2.1 := (sr_45_0 (g := g))
theorem sr_46_0 {g : xe_G} : mt_all (spP srS) (mb_46_0 g) := mt_node_ok (mt_node_ok (mt_node_ok (mt_node_ok (mt_leaf_ok (sp_iload)) (mt_leaf_ok (sp_if))) (mt_node_ok (mt_leaf_ok (sp_iload)) (mt_node_ok (mt_leaf_ok (sp_iload)) (mt_leaf_ok (sp_if2))))) (mt_node_ok (mt_node_ok (mt_leaf_ok (sp_iload)) (mt_node_ok (mt_leaf_ok (sp_aload)) (mt_leaf_ok (sp_get)))) (mt_node_ok (mt_leaf_ok (sp_alen)) (mt_node_ok (mt_leaf_ok (sp_if2)) (mt_leaf_ok (sp_aload)))))) (mt_node_ok (mt_node_ok (mt_node_ok (mt_leaf_ok (sp_get)) (mt_leaf_ok (sp_iload))) (mt_node_ok (mt_leaf_ok (sp_ald)) (mt_node_ok (mt_leaf_ok (sp_push)) (mt_leaf_ok (sp_bin))))) (mt_node_ok (mt_node_ok (mt_leaf_ok (sp_push)) (mt_node_ok (mt_leaf_ok (sp_if2)) (mt_leaf_ok (sp_push)))) (mt_node_ok (mt_leaf_ok (sp_goto)) (mt_node_ok (mt_leaf_ok (sp_push)) (mt_leaf_ok (trivial))))))
theorem sr_46 {g : xe_G} : mt_all (spP srS) (mb_46 g).2.1 := (sr_46_0 (g := g))
theorem sr_47_0 {g : xe_G} : mt_all (spP srS) (mb_47_0 g) := mt_node_ok (mt_node_ok (mt_leaf_ok (sp_aload)) (mt_leaf_ok (sp_get))) (mt_node_ok (mt_leaf_ok (sp_alen)) (mt_leaf_ok (trivial)))
theorem sr_47 {g : xe_G} : mt_all (spP srS) (mb_47 g).2.1 := (sr_47_0 (g := g))
theorem sr_48_0 {g : xe_G} : mt_all (spP srS) (mb_48_0 g) := mt_node_ok (mt_node_ok (mt_node_ok (mt_node_ok (mt_leaf_ok (sp_iload)) (mt_leaf_ok (sp_if))) (mt_node_ok (mt_leaf_ok (sp_iload)) (mt_leaf_ok (sp_aload)))) (mt_node_ok (mt_node_ok (mt_leaf_ok (sp_get)) (mt_leaf_ok (sp_alen))) (mt_node_ok (mt_leaf_ok (sp_if2)) (mt_leaf_ok (sp_push))))) (mt_node_ok (mt_node_ok (mt_node_ok (mt_leaf_ok (sp_goto)) (mt_leaf_ok (sp_aload))) (mt_node_ok (mt_leaf_ok (sp_get)) (mt_leaf_ok (sp_iload)))) (mt_node_ok (mt_node_ok (mt_leaf_ok (sp_ald)) (mt_leaf_ok (sp_push))) (mt_node_ok (mt_leaf_ok (sp_bin)) (mt_leaf_ok (trivial)))))
theorem sr_48 {g : xe_G} : mt_all (spP srS) (mb_48 g).2.1 := (sr_48_0 (g := g))
theorem sr_49_0 {g : xe_G} : mt_all (spP srS) (mb_49_0 g) := mt_node_ok (mt_node_ok (mt_node_ok (mt_node_ok (mt_leaf_ok (sp_iload)) (mt_node_ok (mt_leaf_ok (sp_if)) (mt_leaf_ok (sp_iload)))) (mt_node_ok (mt_node_ok (mt_leaf_ok (sp_aload)) (mt_leaf_ok (sp_get))) (mt_node_ok (mt_leaf_ok (sp_alen)) (mt_leaf_ok (sp_push))))) (mt_node_ok (mt_node_ok (mt_leaf_ok (sp_bin)) (mt_node_ok (mt_leaf_ok (sp_if2)) (mt_leaf_ok (sp_push)))) (mt_node_ok (mt_node_ok (mt_leaf_ok (trivial)) (mt_leaf_ok (sp_aload))) (mt_node_ok (mt_leaf_ok (sp_get)) (mt_leaf_ok (sp_iload)))))) (mt_node_ok (mt_node_ok (mt_node_ok (mt_leaf_ok (sp_ald)) (mt_node_ok (mt_leaf_ok (sp_push)) (mt_leaf_ok (sp_bin)))) (mt_node_ok (mt_node_ok (mt_leaf_ok (sp_push)) (mt_leaf_ok (sp_bin))) (mt_node_ok (mt_leaf_ok (sp_aload)) (mt_leaf_ok (sp_get))))) (mt_node_ok (mt_node_ok (mt_node_ok (mt_leaf_ok (sp_iload)) (mt_leaf_ok (sp_push))) (mt_node_ok (mt_leaf_ok (sp_bin)) (mt_leaf_ok (sp_ald)))) (mt_node_ok (mt_node_ok (mt_leaf_ok (sp_push)) (mt_leaf_ok (sp_bin))) (mt_node_ok (mt_leaf_ok (sp_bin)) (mt_leaf_ok (trivial))))))
theorem sr_49 {g : xe_G} : mt_all (spP srS) (mb_49 g).2.1 := (sr_49_0 (g := g))
theorem sr_50_0 {g : xe_G} : mt_all (spP srS) (mb_50_0 g) := mt_node_ok (mt_node_ok (mt_node_ok (mt_node_ok (mt_node_ok (mt_leaf_ok (sp_iload)) (mt_node_ok (mt_leaf_ok (sp_if)) (mt_leaf_ok (sp_iload)))) (mt_node_ok (mt_leaf_ok (sp_aload)) (mt_node_ok (mt_leaf_ok (sp_get)) (mt_leaf_ok (sp_alen))))) (mt_node_ok (mt_node_ok (mt_leaf_ok (sp_push)) (mt_node_ok (mt_leaf_ok (sp_bin)) (mt_leaf_ok (sp_if2)))) (mt_node_ok (mt_leaf_ok (sp_push)) (mt_node_ok (mt_leaf_ok (trivial)) (mt_leaf_ok (sp_aload)))))) (mt_node_ok (mt_node_ok (mt_node_ok (mt_leaf_ok (sp_get)) (mt_node_ok (mt_leaf_ok (sp_iload)) (mt_leaf_ok (sp_ald)))) (mt_node_ok (mt_leaf_ok (sp_push)) (mt_node_ok (mt_leaf_ok (sp_bin)) (mt_leaf_ok (sp_aload))))) (mt_node_ok (mt_node_ok (mt_leaf_ok (sp_get)) (mt_node_ok (mt_leaf_ok (sp_iload)) (mt_leaf_ok (sp_push)))) (mt_node_ok (mt_leaf_ok (sp_bin)) (mt_node_ok (mt_leaf_ok (sp_ald)) (mt_leaf_ok (sp_push))))))) (mt_node_ok (mt_node_ok (mt_node_ok (mt_node_ok (mt_leaf_ok (sp_bin)) (mt_node_ok (mt_leaf_ok (sp_push)) (mt_leaf_ok (sp_bin)))) (mt_node_ok (mt_leaf_ok (sp_bin)) (mt_node_ok (mt_leaf_ok (sp_aload)) (mt_leaf_ok (sp_get))))) (mt_node_ok (mt_node_ok (mt_leaf_ok (sp_iload)) (mt_node_ok (mt_leaf_ok (sp_push)) (mt_leaf_ok (sp_bin)))) (mt_node_ok (mt_leaf_ok (sp_ald)) (mt_node_ok (mt_leaf_ok (sp_push)) (mt_leaf_ok (sp_bin)))))) (mt_node_ok (mt_node_ok (mt_node_ok (mt_leaf_ok (sp_push)) (mt_node_ok (mt_leaf_ok (sp_bin)) (mt_leaf_ok (sp_bin)))) (mt_node_ok (mt_leaf_ok (sp_aload)) (mt_node_ok (mt_leaf_ok (sp_get)) (mt_leaf_ok (sp_iload))))) (mt_node_ok (mt_node_ok (mt_leaf_ok (sp_push)) (mt_node_ok (mt_leaf_ok (sp_bin)) (mt_leaf_ok (sp_ald)))) (mt_node_ok (mt_leaf_ok (sp_push)) (mt_node_ok (mt_leaf_ok (sp_bin)) (mt_leaf_ok (sp_bin)))))))
theorem sr_50_1 {g : xe_G} : mt_all (spP srS) (mb_50_1 g) := mt_leaf_ok (trivial)
theorem sr_50 {g : xe_G} : mt_all (spP srS) (mb_50 g).2.1 := mt_node_ok ((sr_50_0 (g := g))) ((sr_50_1 (g := g)))
theorem sr_51_0 {g : xe_G} : mt_all (spP srS) (mb_51_0 g) := mt_node_ok (mt_node_ok (mt_node_ok (mt_node_ok (mt_leaf_ok (sp_aload)) (mt_leaf_ok (sp_drop))) (mt_node_ok (mt_leaf_ok (sp_aload)) (mt_node_ok (mt_leaf_ok (sp_aload)) (mt_leaf_ok (sp_put))))) (mt_node_ok (mt_node_ok (mt_leaf_ok (sp_aload)) (mt_leaf_ok (sp_aload))) (mt_node_ok (mt_leaf_ok (sp_put)) (mt_node_ok (mt_leaf_ok (sp_aload)) (mt_leaf_ok (sp_aload)))))) (mt_node_ok (mt_node_ok (mt_node_ok (mt_leaf_ok (sp_put)) (mt_leaf_ok (sp_aload))) (mt_node_ok (mt_leaf_ok (sp_aload)) (mt_node_ok (mt_leaf_ok (sp_get)) (mt_leaf_ok (sp_put))))) (mt_node_ok (mt_node_ok (mt_leaf_ok (sp_aload)) (mt_leaf_ok (sp_aload))) (mt_node_ok (mt_leaf_ok (sp_get)) (mt_node_ok (mt_leaf_ok (sp_put)) (mt_leaf_ok (trivial))))))
theorem sr_51 {g : xe_G} : mt_all (spP srS) (mb_51 g).2.1 := (sr_51_0 (g := g))
theorem sr_52_0 {g : xe_G} : mt_all (spP srS) (mb_52_0 g) := mt_node_ok (mt_node_ok (mt_node_ok (mt_node_ok (mt_leaf_ok (sp_aload)) (mt_node_ok (mt_leaf_ok (sp_push)) (mt_leaf_ok (rfl)))) (mt_node_ok (mt_leaf_ok (sp_if)) (mt_node_ok (mt_leaf_ok (sp_push)) (mt_leaf_ok (trivial))))) (mt_node_ok (mt_node_ok (mt_leaf_ok (sp_aload)) (mt_node_ok (mt_leaf_ok (sp_get)) (mt_leaf_ok (sp_get)))) (mt_node_ok (mt_leaf_ok (sp_push)) (mt_node_ok (mt_leaf_ok (sp_if2)) (mt_leaf_ok (sp_aload)))))) (mt_node_ok (mt_node_ok (mt_node_ok (mt_leaf_ok (sp_get)) (mt_node_ok (mt_leaf_ok (sp_get)) (mt_leaf_ok (sp_push)))) (mt_node_ok (mt_leaf_ok (sp_if2)) (mt_node_ok (mt_leaf_ok (sp_aload)) (mt_leaf_ok (sp_push))))) (mt_node_ok (mt_node_ok (mt_leaf_ok (rfl)) (mt_node_ok (mt_leaf_ok (sp_if)) (mt_leaf_ok (sp_push)))) (mt_node_ok (mt_leaf_ok (sp_goto)) (mt_node_ok (mt_leaf_ok (sp_push)) (mt_leaf_ok (trivial))))))
theorem sr_52 {g : xe_G} : mt_all (spP srS) (mb_52 g).2.1 := (sr_52_0 (g := g))
theorem sr_53_0 {g : xe_G} : mt_all (spP srS) (mb_53_0 g) := mt_node_ok (mt_node_ok (mt_node_ok (mt_node_ok (mt_node_ok (mt_leaf_ok (sp_iload)) (mt_leaf_ok (sp_push))) (mt_node_ok (mt_leaf_ok (sp_bin)) (mt_leaf_ok (sp_if)))) (mt_node_ok (mt_node_ok (mt_leaf_ok (sp_push)) (mt_leaf_ok (trivial))) (mt_node_ok (mt_leaf_ok (sp_iload)) (mt_leaf_ok (sp_push))))) (mt_node_ok (mt_node_ok (mt_node_ok (mt_leaf_ok (sp_bin)) (mt_leaf_ok (sp_if))) (mt_node_ok (mt_leaf_ok (sp_iload)) (mt_leaf_ok (sp_push)))) (mt_node_ok (mt_node_ok (mt_leaf_ok (sp_bin)) (mt_leaf_ok (sp_if))) (mt_node_ok (mt_leaf_ok (sp_iload)) (mt_node_ok (mt_leaf_ok (sp_push)) (mt_leaf_ok (sp_bin))))))) (mt_node_ok (mt_node_ok (mt_node_ok (mt_node_ok (mt_leaf_ok (sp_if)) (mt_leaf_ok (sp_push))) (mt_node_ok (mt_leaf_ok (sp_goto)) (mt_leaf_ok (sp_push)))) (mt_node_ok (mt_node_ok (mt_leaf_ok (trivial)) (mt_leaf_ok (sp_iload))) (mt_node_ok (mt_leaf_ok (sp_push)) (mt_leaf_ok (sp_bin))))) (mt_node_ok (mt_node_ok (mt_node_ok (mt_leaf_ok (sp_if)) (mt_leaf_ok (sp_iload))) (mt_node_ok (mt_leaf_ok (sp_push)) (mt_leaf_ok (rfl)))) (mt_node_ok (mt_node_ok (mt_leaf_ok (sp_if)) (mt_leaf_ok (sp_push))) (mt_node_ok (mt_leaf_ok (sp_goto)) (mt_node_ok (mt_leaf_ok (sp_push)) (mt_leaf_ok (trivial)))))))
theorem sr_53 {g : xe_G} : mt_all (spP srS) (mb_53 g).2.1 := (sr_53_0 (g := g))
theorem sr_54_0 {g : xe_G} : mt_all (spP srS) (mb_54_0 g) := mt_node_ok (mt_node_ok (mt_node_ok (mt_node_ok (mt_node_ok (mt_leaf_ok (sp_aload)) (mt_leaf_ok (sp_get))) (mt_node_ok (mt_leaf_ok (sp_aload)) (mt_leaf_ok (sp_get)))) (mt_node_ok (mt_node_ok (mt_leaf_ok (sp_push)) (mt_leaf_ok (rfl))) (mt_node_ok (mt_leaf_ok (sp_if)) (mt_leaf_ok (sp_aload))))) (mt_node_ok (mt_node_ok (mt_node_ok (mt_leaf_ok (sp_push)) (mt_leaf_ok (rfl))) (mt_node_ok (mt_leaf_ok (sp_if)) (mt_leaf_ok (sp_push)))) (mt_node_ok (mt_node_ok (mt_leaf_ok (sp_goto)) (mt_leaf_ok (sp_push))) (mt_node_ok (mt_leaf_ok (sp_isto)) (mt_node_ok (mt_leaf_ok (sp_iload)) (mt_leaf_ok (sp_aload))))))) (mt_node_ok (mt_node_ok (mt_node_ok (mt_node_ok (mt_leaf_ok (sp_get)) (mt_leaf_ok (sp_null))) (mt_node_ok (mt_leaf_ok (sp_push)) (mt_leaf_ok (sp_goto)))) (mt_node_ok (mt_node_ok (mt_leaf_ok (sp_push)) (mt_leaf_ok (sp_if2))) (mt_node_ok (mt_leaf_ok (sp_aload)) (mt_leaf_ok (sp_get))))) (mt_node_ok (mt_node_ok (mt_node_ok (mt_leaf_ok (sp_push)) (mt_leaf_ok (sp_aload))) (mt_node_ok (mt_leaf_ok (sp_get)) (mt_leaf_ok (rfl)))) (mt_node_ok (mt_node_ok (mt_leaf_ok (sp_if)) (mt_leaf_ok (sp_push))) (mt_node_ok (mt_leaf_ok (sp_goto)) (mt_node_ok (mt_leaf_ok (sp_push)) (mt_leaf_ok (trivial)))))))
theorem sr_54 {g : xe_G} : mt_all (spP srS) (mb_54 g).2.1 := (sr_54_0 (g := g))
theorem sr_55_0 {g : xe_G} : mt_all (spP srS) (mb_55_0 g) := mt_node_ok (mt_node_ok (mt_node_ok (mt_node_ok (mt_leaf_ok (sp_aload)) (mt_node_ok (mt_leaf_ok (sp_get)) (mt_leaf_ok (sp_push)))) (mt_node_ok (mt_leaf_ok (rfl)) (mt_node_ok (mt_leaf_ok (sp_if)) (mt_leaf_ok (sp_push))))) (mt_node_ok (mt_node_ok (mt_leaf_ok (sp_isto)) (mt_node_ok (mt_leaf_ok (sp_iload)) (mt_leaf_ok (sp_iload)))) (mt_node_ok (mt_node_ok (mt_leaf_ok (sp_bin)) (mt_leaf_ok (sp_push))) (mt_node_ok (mt_leaf_ok (sp_if2)) (mt_leaf_ok (sp_push)))))) (mt_node_ok (mt_node_ok (mt_node_ok (mt_leaf_ok (sp_goto)) (mt_node_ok (mt_leaf_ok (sp_push)) (mt_leaf_ok (trivial)))) (mt_node_ok (mt_node_ok (mt_leaf_ok (sp_iload)) (mt_leaf_ok (rfl))) (mt_node_ok (mt_leaf_ok (sp_if)) (mt_leaf_ok (sp_iload))))) (mt_node_ok (mt_node_ok (mt_leaf_ok (sp_push)) (mt_node_ok (mt_leaf_ok (rfl)) (mt_leaf_ok (sp_if)))) (mt_node_ok (mt_node_ok (mt_leaf_ok (sp_push)) (mt_leaf_ok (sp_goto))) (mt_node_ok (mt_leaf_ok (sp_push)) (mt_leaf_ok (trivial))))))
theorem sr_55 {g : xe_G} : mt_all (spP srS) (mb_55 g).2.1 := (sr_55_0 (g := g))
theorem sr_56_0 {g : xe_G} : mt_all (spP srS) (mb_56_0 g) := mt_node_ok (mt_node_ok (mt_node_ok (mt_node_ok (mt_node_ok (mt_leaf_ok (sp_aload)) (mt_node_ok (mt_leaf_ok (sp_aload)) (mt_leaf_ok (sp_get)))) (mt_node_ok (mt_leaf_ok (rfl)) (mt_node_ok (mt_leaf_ok (sp_if)) (mt_leaf_ok (sp_aload))))) (mt_node_ok (mt_node_ok (mt_leaf_ok (sp_get)) (mt_node_ok (mt_leaf_ok (sp_push)) (mt_leaf_ok (sp_aload)))) (mt_node_ok (mt_leaf_ok (sp_get)) (mt_node_ok (mt_leaf_ok (rfl)) (mt_leaf_ok (trivial)))))) (mt_node_ok (mt_node_ok (mt_node_ok (mt_leaf_ok (sp_aload)) (mt_node_ok (mt_leaf_ok (sp_get)) (mt_leaf_ok (sp_aload)))) (mt_node_ok (mt_leaf_ok (sp_get)) (mt_node_ok (mt_leaf_ok (rfl)) (mt_leaf_ok (sp_if))))) (mt_node_ok (mt_node_ok (mt_leaf_ok (sp_aload)) (mt_node_ok (mt_leaf_ok (sp_get)) (mt_leaf_ok (sp_push)))) (mt_node_ok (mt_leaf_ok (sp_aload)) (mt_node_ok (mt_leaf_ok (sp_get)) (mt_leaf_ok (sp_push))))))) (mt_node_ok (mt_node_ok (mt_node_ok (mt_node_ok (mt_leaf_ok (sp_bin)) (mt_node_ok (mt_leaf_ok (rfl)) (mt_leaf_ok (trivial)))) (mt_node_ok (mt_leaf_ok (sp_aload)) (mt_node_ok (mt_leaf_ok (sp_get)) (mt_leaf_ok (sp_aload))))) (mt_node_ok (mt_node_ok (mt_leaf_ok (sp_get)) (mt_node_ok (mt_leaf_ok (rfl)) (mt_leaf_ok (sp_if)))) (mt_node_ok (mt_leaf_ok (sp_aload)) (mt_node_ok (mt_leaf_ok (sp_get)) (mt_leaf_ok (sp_push)))))) (mt_node_ok (mt_node_ok (mt_node_ok (mt_leaf_ok (sp_aload)) (mt_node_ok (mt_leaf_ok (sp_get)) (mt_leaf_ok (sp_push)))) (mt_node_ok (mt_leaf_ok (sp_bin)) (mt_node_ok (mt_leaf_ok (rfl)) (mt_leaf_ok (trivial))))) (mt_node_ok (mt_node_ok (mt_leaf_ok (sp_aload)) (mt_node_ok (mt_leaf_ok (sp_get)) (mt_leaf_ok (sp_aload)))) (mt_node_ok (mt_leaf_ok (sp_get)) (mt_node_ok (mt_leaf_ok (sp_get)) (mt_leaf_ok (sp_iload)))))))
theorem sr_56_1 {g : xe_G} : mt_all (spP srS) (mb_56_1 g) := mt_node_ok (mt_node_ok (mt_node_ok (mt_leaf_ok (sp_aload)) (mt_node_ok (mt_leaf_ok (sp_get)) (mt_leaf_ok (sp_aload)))) (mt_node_ok (mt_node_ok (mt_leaf_ok (sp_get)) (mt_leaf_ok (rfl))) (mt_node_ok (mt_leaf_ok (sp_if)) (mt_leaf_ok (sp_aload))))) (mt_node_ok (mt_node_ok (mt_node_ok (mt_leaf_ok (sp_get)) (mt_leaf_ok (sp_push))) (mt_node_ok (mt_leaf_ok (sp_aload)) (mt_leaf_ok (sp_get)))) (mt_node_ok (mt_node_ok (mt_leaf_ok (rfl)) (mt_leaf_ok (trivial))) (mt_node_ok (mt_leaf_ok (sp_push)) (mt_leaf_ok (trivial)))))
theorem sr_56 {g : xe_G} : mt_all (spP srS) (mb_56 g).2.1 := mt_node_ok ((sr_56_0 (g := g))) ((sr_56_1 (g := g)))
theorem sr_57_0 {g : xe_G} : mt_all (spP srS) (mb_57_0 g) := mt_node_ok (mt_node_ok (mt_node_ok (mt_node_ok (mt_node_ok (mt_leaf_ok (sp_push)) (mt_leaf_ok (sp_isto))) (mt_node_ok (mt_leaf_ok (sp_iload)) (mt_leaf_ok (sp_aload)))) (mt_node_ok (mt_node_ok (mt_leaf_ok (sp_get)) (mt_leaf_ok (sp_get))) (mt_node_ok (mt_leaf_ok (sp_alen)) (mt_leaf_ok (sp_if2))))) (mt_node_ok (mt_node_ok (mt_node_ok (mt_leaf_ok (sp_aload)) (mt_leaf_ok (sp_get))) (mt_node_ok (mt_leaf_ok (sp_get)) (mt_leaf_ok (sp_iload)))) (mt_node_ok (mt_node_ok (mt_leaf_ok (sp_ald)) (mt_leaf_ok (sp_asto))) (mt_node_ok (mt_leaf_ok (sp_aload)) (mt_leaf_ok (sp_null)))))) (mt_node_ok (mt_node_ok (mt_node_ok (mt_node_ok (mt_leaf_ok (sp_goto)) (mt_leaf_ok (sp_aload))) (mt_node_ok (mt_leaf_ok (sp_aload)) (mt_leaf_ok (sp_iload)))) (mt_node_ok (mt_node_ok (mt_leaf_ok (rfl)) (mt_leaf_ok (sp_if))) (mt_node_ok (mt_leaf_ok (sp_aload)) (mt_leaf_ok (sp_get))))) (mt_node_ok (mt_node_ok (mt_node_ok (mt_leaf_ok (sp_aload)) (mt_leaf_ok (rfl))) (mt_node_ok (mt_leaf_ok (sp_if)) (mt_leaf_ok (sp_push)))) (mt_node_ok (mt_node_ok (mt_leaf_ok (trivial)) (mt_leaf_ok (sp_iinc))) (mt_node_ok (mt_leaf_ok (sp_goto)) (mt_node_ok (mt_leaf_ok (sp_push)) (mt_leaf_ok (trivial)))))))
theorem sr_57 {g : xe_G} : mt_all (spP srS) (mb_57 g).2.1 := (sr_57_0 (g := g))
theorem sr_58_0 {g : xe_G} : mt_all (spP srS) (mb_58_0 g) := mt_node_ok (mt_node_ok (mt_node_ok (mt_leaf_ok (sp_iload)) (mt_leaf_ok (sp_iload))) (mt_node_ok (mt_leaf_ok (sp_bin)) (mt_leaf_ok (sp_iload)))) (mt_node_ok (mt_node_ok (mt_leaf_ok (sp_if2)) (mt_leaf_ok (sp_push))) (mt_node_ok (mt_leaf_ok (sp_goto)) (mt_node_ok (mt_leaf_ok (sp_push)) (mt_leaf_ok (trivial)))))
theorem sr_58 {g : xe_G} : mt_all (spP srS) (mb_58 g).2.1 := (sr_58_0 (g := g))
theorem sr_59_0 {g : xe_G} : mt_all (spP srS) (mb_59_0 g) := mt_node_ok (mt_node_ok (mt_node_ok (mt_leaf_ok (sp_iload)) (mt_leaf_ok (sp_push))) (mt_node_ok (mt_leaf_ok (sp_bin)) (mt_node_ok (mt_leaf_ok (rfl)) (mt_leaf_ok (sp_push))))) (mt_node_ok (mt_node_ok (mt_leaf_ok (sp_if2)) (mt_leaf_ok (sp_push))) (mt_node_ok (mt_leaf_ok (sp_goto)) (mt_node_ok (mt_leaf_ok (sp_push)) (mt_leaf_ok (trivial)))))
theorem sr_59 {g : xe_G} : mt_all (spP srS) (mb_59 g).2.1 := (sr_59_0 (g := g))
theorem sr_60_0 {g : xe_G} : mt_all (spP srS) (mb_60_0 g) := mt_node_ok (mt_node_ok (mt_node_ok (mt_node_ok (mt_node_ok (mt_leaf_ok (sp_aload)) (mt_node_ok (mt_leaf_ok (sp_get)) (mt_leaf_ok (sp_get)))) (mt_node_ok (mt_leaf_ok (sp_isto)) (mt_node_ok (mt_leaf_ok (sp_aload)) (mt_leaf_ok (sp_get))))) (mt_node_ok (mt_node_ok (mt_leaf_ok (sp_iload)) (mt_node_ok (mt_leaf_ok (rfl)) (mt_leaf_ok (rfl)))) (mt_node_ok (mt_leaf_ok (sp_if)) (mt_node_ok (mt_leaf_ok (sp_aload)) (mt_leaf_ok (sp_get)))))) (mt_node_ok (mt_node_ok (mt_node_ok (mt_leaf_ok (sp_push)) (mt_node_ok (mt_leaf_ok (sp_iload)) (mt_leaf_ok (rfl)))) (mt_node_ok (mt_leaf_ok (trivial)) (mt_node_ok (mt_leaf_ok (sp_aload)) (mt_leaf_ok (sp_get))))) (mt_node_ok (mt_node_ok (mt_leaf_ok (sp_aload)) (mt_node_ok (mt_leaf_ok (sp_get)) (mt_leaf_ok (sp_iload)))) (mt_node_ok (mt_leaf_ok (sp_push)) (mt_node_ok (mt_leaf_ok (sp_bin)) (mt_leaf_ok (rfl))))))) (mt_node_ok (mt_node_ok (mt_node_ok (mt_node_ok (mt_leaf_ok (rfl)) (mt_node_ok (mt_leaf_ok (sp_if)) (mt_leaf_ok (sp_aload)))) (mt_node_ok (mt_leaf_ok (sp_get)) (mt_node_ok (mt_leaf_ok (sp_push)) (mt_leaf_ok (sp_iload))))) (mt_node_ok (mt_node_ok (mt_leaf_ok (sp_push)) (mt_node_ok (mt_leaf_ok (sp_bin)) (mt_leaf_ok (rfl)))) (mt_node_ok (mt_leaf_ok (trivial)) (mt_node_ok (mt_leaf_ok (sp_aload)) (mt_leaf_ok (sp_get)))))) (mt_node_ok (mt_node_ok (mt_node_ok (mt_leaf_ok (sp_iload)) (mt_node_ok (mt_leaf_ok (sp_push)) (mt_leaf_ok (sp_bin)))) (mt_node_ok (mt_leaf_ok (rfl)) (mt_node_ok (mt_leaf_ok (sp_isto)) (mt_leaf_ok (sp_aload))))) (mt_node_ok (mt_node_ok (mt_leaf_ok (sp_get)) (mt_node_ok (mt_leaf_ok (sp_iload)) (mt_leaf_ok (rfl)))) (mt_node_ok (mt_leaf_ok (sp_if)) (mt_node_ok (mt_leaf_ok (sp_aload)) (mt_leaf_ok (sp_get)))))))
theorem sr_60_1 {g : xe_G} : mt_all (spP srS) (mb_60_1 g) := mt_node_ok (mt_node_ok (mt_node_ok (mt_node_ok (mt_leaf_ok (sp_push)) (mt_node_ok (mt_leaf_ok (sp_iload)) (mt_leaf_ok (sp_push)))) (mt_node_ok (mt_node_ok (mt_leaf_ok (sp_bin)) (mt_leaf_ok (rfl))) (mt_node_ok (mt_leaf_ok (trivial)) (mt_leaf_ok (sp_aload))))) (mt_node_ok (mt_node_ok (mt_node_ok (mt_leaf_ok (sp_get)) (mt_leaf_ok (sp_push))) (mt_node_ok (mt_leaf_ok (rfl)) (mt_leaf_ok (sp_if)))) (mt_node_ok (mt_node_ok (mt_leaf_ok (sp_aload)) (mt_leaf_ok (sp_get))) (mt_node_ok (mt_leaf_ok (sp_aload)) (mt_leaf_ok (sp_get)))))) (mt_node_ok (mt_node_ok (mt_node_ok (mt_leaf_ok (sp_iload)) (mt_node_ok (mt_leaf_ok (rfl)) (mt_leaf_ok (sp_push)))) (mt_node_ok (mt_node_ok (mt_leaf_ok (rfl)) (mt_leaf_ok (sp_if))) (mt_node_ok (mt_leaf_ok (sp_aload)) (mt_leaf_ok (sp_get))))) (mt_node_ok (mt_node_ok (mt_node_ok (mt_leaf_ok (sp_push)) (mt_leaf_ok (sp_iload))) (mt_node_ok (mt_leaf_ok (sp_push)) (mt_leaf_ok (sp_bin)))) (mt_node_ok (mt_node_ok (mt_leaf_ok (rfl)) (mt_leaf_ok (trivial))) (mt_node_ok (mt_leaf_ok (sp_push)) (mt_leaf_ok (trivial))))))
theorem sr_60 {g : xe_G} : mt_all (spP srS) (mb_60 g).2.1 := mt_node_ok ((sr_60_0 (g := g))) ((sr_60_1 (g := g)))
theorem sr_61_0 {g : xe_G} : mt_all (spP srS) (mb_61_0 g) := mt_node_ok (mt_node_ok (mt_node_ok (mt_node_ok (mt_node_ok (mt_leaf_ok (sp_aload)) (mt_leaf_ok (sp_push))) (mt_node_ok (mt_leaf_ok (rfl)) (mt_leaf_ok (sp_if)))) (mt_node_ok (mt_node_ok (mt_leaf_ok (sp_push)) (mt_leaf_ok (trivial))) (mt_node_ok (mt_leaf_ok (sp_aload)) (mt_leaf_ok (sp_get))))) (mt_node_ok (mt_node_ok (mt_node_ok (mt_leaf_ok (sp_get)) (mt_leaf_ok (sp_push))) (mt_node_ok (mt_leaf_ok (sp_if2)) (mt_leaf_ok (sp_aload)))) (mt_node_ok (mt_node_ok (mt_leaf_ok (sp_get)) (mt_leaf_ok (sp_push))) (mt_node_ok (mt_leaf_ok (rfl)) (mt_node_ok (mt_leaf_ok (sp_if)) (mt_leaf_ok (sp_aload))))))) (mt_node_ok (mt_node_ok (mt_node_ok (mt_node_ok (mt_leaf_ok (sp_push)) (mt_leaf_ok (rfl))) (mt_node_ok (mt_leaf_ok (sp_if)) (mt_leaf_ok (sp_push)))) (mt_node_ok (mt_node_ok (mt_leaf_ok (sp_goto)) (mt_leaf_ok (sp_push))) (mt_node_ok (mt_leaf_ok (trivial)) (mt_node_ok (mt_leaf_ok (sp_aload)) (mt_leaf_ok (sp_push)))))) (mt_node_ok (mt_node_ok (mt_node_ok (mt_leaf_ok (rfl)) (mt_leaf_ok (sp_aload))) (mt_node_ok (mt_leaf_ok (sp_push)) (mt_leaf_ok (rfl)))) (mt_node_ok (mt_node_ok (mt_leaf_ok (sp_if2)) (mt_leaf_ok (sp_push))) (mt_node_ok (mt_leaf_ok (sp_goto)) (mt_node_ok (mt_leaf_ok (sp_push)) (mt_leaf_ok (trivial)))))))
theorem sr_61 {g : xe_G} : mt_all (spP srS) (mb_61 g).2.1 := (sr_61_0 (g := g))
theorem sr_62_0 {g : xe_G} : mt_all (spP srS) (mb_62_0 g) := mt_node_ok (mt_node_ok (mt_node_ok (mt_node_ok (mt_node_ok (mt_leaf_ok (sp_aload)) (mt_node_ok (mt_leaf_ok (sp_get)) (mt_leaf_ok (sp_get)))) (mt_node_ok (mt_leaf_ok (sp_push)) (mt_node_ok (mt_leaf_ok (sp_bin)) (mt_leaf_ok (sp_isto))))) (mt_node_ok (mt_node_ok (mt_leaf_ok (sp_push)) (mt_node_ok (mt_leaf_ok (sp_isto)) (mt_leaf_ok (sp_iload)))) (mt_node_ok (mt_leaf_ok (sp_aload)) (mt_node_ok (mt_leaf_ok (sp_get)) (mt_leaf_ok (sp_get)))))) (mt_node_ok (mt_node_ok (mt_node_ok (mt_leaf_ok (sp_if2)) (mt_node_ok (mt_leaf_ok (sp_aload)) (mt_leaf_ok (sp_get)))) (mt_node_ok (mt_leaf_ok (sp_iload)) (mt_node_ok (mt_leaf_ok (sp_push)) (mt_leaf_ok (sp_iload))))) (mt_node_ok (mt_node_ok (mt_leaf_ok (sp_bin)) (mt_node_ok (mt_leaf_ok (sp_bin)) (mt_leaf_ok (rfl)))) (mt_node_ok (mt_leaf_ok (sp_isto)) (mt_node_ok (mt_leaf_ok (sp_aload)) (mt_leaf_ok (sp_get))))))) (mt_node_ok (mt_node_ok (mt_node_ok (mt_node_ok (mt_leaf_ok (sp_iload)) (mt_node_ok (mt_leaf_ok (rfl)) (mt_leaf_ok (sp_if)))) (mt_node_ok (mt_leaf_ok (sp_aload)) (mt_node_ok (mt_leaf_ok (sp_get)) (mt_leaf_ok (sp_push))))) (mt_node_ok (mt_node_ok (mt_leaf_ok (sp_iload)) (mt_node_ok (mt_leaf_ok (sp_push)) (mt_leaf_ok (sp_iload)))) (mt_node_ok (mt_leaf_ok (sp_bin)) (mt_node_ok (mt_leaf_ok (sp_bin)) (mt_leaf_ok (rfl)))))) (mt_node_ok (mt_node_ok (mt_node_ok (mt_leaf_ok (trivial)) (mt_node_ok (mt_leaf_ok (sp_push)) (mt_leaf_ok (sp_isto)))) (mt_node_ok (mt_leaf_ok (sp_iload)) (mt_node_ok (mt_leaf_ok (sp_iload)) (mt_leaf_ok (sp_if2))))) (mt_node_ok (mt_node_ok (mt_leaf_ok (sp_aload)) (mt_node_ok (mt_leaf_ok (sp_get)) (mt_leaf_ok (sp_iload)))) (mt_node_ok (mt_leaf_ok (sp_push)) (mt_node_ok (mt_leaf_ok (sp_iload)) (mt_leaf_ok (sp_bin)))))))
theorem sr_62_1 {g : xe_G} : mt_all (spP srS) (mb_62_1 g) := mt_node_ok (mt_node_ok (mt_node_ok (mt_node_ok (mt_leaf_ok (sp_bin)) (mt_node_ok (mt_leaf_ok (rfl)) (mt_leaf_ok (sp_isto)))) (mt_node_ok (mt_node_ok (mt_leaf_ok (sp_aload)) (mt_leaf_ok (sp_get))) (mt_node_ok (mt_leaf_ok (sp_aload)) (mt_leaf_ok (sp_get))))) (mt_node_ok (mt_node_ok (mt_node_ok (mt_leaf_ok (sp_iload)) (mt_leaf_ok (rfl))) (mt_node_ok (mt_leaf_ok (sp_aload)) (mt_leaf_ok (sp_get)))) (mt_node_ok (mt_node_ok (mt_leaf_ok (sp_iload)) (mt_leaf_ok (rfl))) (mt_node_ok (mt_leaf_ok (rfl)) (mt_leaf_ok (sp_if)))))) (mt_node_ok (mt_node_ok (mt_node_ok (mt_node_ok (mt_leaf_ok (sp_aload)) (mt_leaf_ok (sp_get))) (mt_node_ok (mt_leaf_ok (sp_push)) (mt_leaf_ok (sp_iload)))) (mt_node_ok (mt_node_ok (mt_leaf_ok (sp_push)) (mt_leaf_ok (sp_iload))) (mt_node_ok (mt_leaf_ok (sp_bin)) (mt_leaf_ok (sp_bin))))) (mt_node_ok (mt_node_ok (mt_node_ok (mt_leaf_ok (rfl)) (mt_leaf_ok (trivial))) (mt_node_ok (mt_leaf_ok (sp_iinc)) (mt_leaf_ok (sp_goto)))) (mt_node_ok (mt_node_ok (mt_leaf_ok (sp_iinc)) (mt_leaf_ok (sp_goto))) (mt_node_ok (mt_leaf_ok (sp_push)) (mt_leaf_ok (trivial))))))
theorem sr_62 {g : xe_G} : mt_all (spP srS) (mb_62 g).2.1 := mt_node_ok ((sr_62_0 (g := g))) ((sr_62_1 (g := g)))
theorem sr_63_0 {g : xe_G} : mt_all (spP srS) (mb_63_0 g) := mt_node_ok (mt_node_ok (mt_node_ok (mt_node_ok (mt_leaf_ok (sp_aload)) (mt_node_ok (mt_leaf_ok (sp_get)) (mt_leaf_ok (sp_aload)))) (mt_node_ok (mt_node_ok (mt_leaf_ok (sp_get)) (mt_leaf_ok (rfl))) (mt_node_ok (mt_leaf_ok (sp_if)) (mt_leaf_ok (sp_aload))))) (mt_node_ok (mt_node_ok (mt_leaf_ok (sp_get)) (mt_node_ok (mt_leaf_ok (sp_push)) (mt_leaf_ok (sp_if2)))) (mt_node_ok (mt_node_ok (mt_leaf_ok (sp_push)) (mt_leaf_ok (trivial))) (mt_node_ok (mt_leaf_ok (sp_aload)) (mt_leaf_ok (sp_get)))))) (mt_node_ok (mt_node_ok (mt_node_ok (mt_leaf_ok (sp_aload)) (mt_node_ok (mt_leaf_ok (sp_get)) (mt_leaf_ok (sp_push)))) (mt_node_ok (mt_node_ok (mt_leaf_ok (rfl)) (mt_leaf_ok (sp_if))) (mt_node_ok (mt_leaf_ok (sp_aload)) (mt_leaf_ok (sp_get))))) (mt_node_ok (mt_node_ok (mt_node_ok (mt_leaf_ok (sp_aload)) (mt_leaf_ok (sp_get))) (mt_node_ok (mt_leaf_ok (rfl)) (mt_leaf_ok (sp_if)))) (mt_node_ok (mt_node_ok (mt_leaf_ok (sp_push)) (mt_leaf_ok (sp_goto))) (mt_node_ok (mt_leaf_ok (sp_push)) (mt_leaf_ok (trivial))))))
theorem sr_63 {g : xe_G} : mt_all (spP srS) (mb_63 g).2.1 := (sr_63_0 (g := g))
theorem sr_64_0 {g : xe_G} : mt_all (spP srS) (mb_64_0 g) := mt_node_ok (mt_node_ok (mt_node_ok (mt_node_ok (mt_node_ok (mt_leaf_ok (sp_aload)) (mt_node_ok (mt_leaf_ok (sp_get)) (mt_leaf_ok (sp_aload)))) (mt_node_ok (mt_leaf_ok (sp_get)) (mt_node_ok (mt_leaf_ok (sp_push)) (mt_leaf_ok (rfl))))) (mt_node_ok (mt_node_ok (mt_leaf_ok (sp_if)) (mt_node_ok (mt_leaf_ok (sp_push)) (mt_leaf_ok (trivial)))) (mt_node_ok (mt_leaf_ok (sp_aload)) (mt_node_ok (mt_leaf_ok (sp_get)) (mt_leaf_ok (sp_aload)))))) (mt_node_ok (mt_node_ok (mt_node_ok (mt_leaf_ok (sp_get)) (mt_node_ok (mt_leaf_ok (sp_push)) (mt_leaf_ok (rfl)))) (mt_node_ok (mt_leaf_ok (sp_if)) (mt_node_ok (mt_leaf_ok (sp_push)) (mt_leaf_ok (sp_isto))))) (mt_node_ok (mt_node_ok (mt_leaf_ok (sp_aload)) (mt_node_ok (mt_leaf_ok (sp_get)) (mt_leaf_ok (rfl)))) (mt_node_ok (mt_leaf_ok (sp_if)) (mt_node_ok (mt_leaf_ok (sp_aload)) (mt_leaf_ok (sp_iload))))))) (mt_node_ok (mt_node_ok (mt_node_ok (mt_node_ok (mt_leaf_ok (rfl)) (mt_node_ok (mt_leaf_ok (sp_if)) (mt_leaf_ok (sp_push)))) (mt_node_ok (mt_leaf_ok (sp_goto)) (mt_node_ok (mt_leaf_ok (sp_push)) (mt_leaf_ok (trivial))))) (mt_node_ok (mt_node_ok (mt_leaf_ok (sp_aload)) (mt_node_ok (mt_leaf_ok (sp_push)) (mt_leaf_ok (rfl)))) (mt_node_ok (mt_leaf_ok (sp_if)) (mt_node_ok (mt_leaf_ok (sp_aload)) (mt_leaf_ok (sp_aload)))))) (mt_node_ok (mt_node_ok (mt_node_ok (mt_leaf_ok (rfl)) (mt_node_ok (mt_leaf_ok (sp_if)) (mt_leaf_ok (sp_push)))) (mt_node_ok (mt_leaf_ok (trivial)) (mt_node_ok (mt_leaf_ok (sp_aload)) (mt_leaf_ok (sp_get))))) (mt_node_ok (mt_node_ok (mt_leaf_ok (sp_push)) (mt_node_ok (mt_leaf_ok (rfl)) (mt_leaf_ok (sp_if)))) (mt_node_ok (mt_leaf_ok (sp_aload)) (mt_node_ok (mt_leaf_ok (sp_aload)) (mt_leaf_ok (rfl)))))))
theorem sr_64_1 {g : xe_G} : mt_all (spP srS) (mb_64_1 g) := mt_node_ok (mt_node_ok (mt_leaf_ok (sp_goto)) (mt_leaf_ok (sp_aload))) (mt_node_ok (mt_leaf_ok (sp_get)) (mt_node_ok (mt_leaf_ok (rfl)) (mt_leaf_ok (trivial))))
theorem sr_64 {g : xe_G} : mt_all (spP srS) (mb_64 g).2.1 := mt_node_ok ((sr_64_0 (g := g))) ((sr_64_1 (g := g)))
theorem sr_65_0 {g : xe_G} : mt_all (spP srS) (mb_65_0 g) := mt_node_ok (mt_node_ok (mt_node_ok (mt_node_ok (mt_node_ok (mt_leaf_ok (sp_aload)) (mt_node_ok (mt_leaf_ok (sp_aload)) (mt_leaf_ok (sp_get)))) (mt_node_ok (mt_leaf_ok (rfl)) (mt_node_ok (mt_leaf_ok (sp_if)) (mt_leaf_ok (sp_aload))))) (mt_node_ok (mt_node_ok (mt_leaf_ok (sp_get)) (mt_node_ok (mt_leaf_ok (sp_push)) (mt_leaf_ok (sp_aload)))) (mt_node_ok (mt_leaf_ok (sp_get)) (mt_node_ok (mt_leaf_ok (sp_push)) (mt_leaf_ok (sp_bin)))))) (mt_node_ok (mt_node_ok (mt_node_ok (mt_leaf_ok (rfl)) (mt_node_ok (mt_leaf_ok (trivial)) (mt_leaf_ok (sp_aload)))) (mt_node_ok (mt_leaf_ok (sp_aload)) (mt_node_ok (mt_leaf_ok (rfl)) (mt_leaf_ok (sp_if))))) (mt_node_ok (mt_node_ok (mt_leaf_ok (sp_aload)) (mt_node_ok (mt_leaf_ok (sp_get)) (mt_leaf_ok (sp_push)))) (mt_node_ok (mt_leaf_ok (sp_aload)) (mt_node_ok (mt_leaf_ok (sp_get)) (mt_leaf_ok (rfl))))))) (mt_node_ok (mt_node_ok (mt_node_ok (mt_node_ok (mt_leaf_ok (trivial)) (mt_node_ok (mt_leaf_ok (sp_aload)) (mt_leaf_ok (sp_aload)))) (mt_node_ok (mt_leaf_ok (sp_get)) (mt_node_ok (mt_leaf_ok (sp_aload)) (mt_leaf_ok (sp_get))))) (mt_node_ok (mt_node_ok (mt_leaf_ok (rfl)) (mt_node_ok (mt_leaf_ok (sp_aload)) (mt_leaf_ok (sp_push)))) (mt_node_ok (mt_leaf_ok (rfl)) (mt_node_ok (mt_leaf_ok (sp_if)) (mt_leaf_ok (sp_push)))))) (mt_node_ok (mt_node_ok (mt_node_ok (mt_leaf_ok (sp_goto)) (mt_node_ok (mt_leaf_ok (sp_push)) (mt_leaf_ok (sp_bin)))) (mt_node_ok (mt_leaf_ok (sp_put)) (mt_node_ok (mt_leaf_ok (sp_aload)) (mt_leaf_ok (sp_aload))))) (mt_node_ok (mt_node_ok (mt_leaf_ok (rfl)) (mt_node_ok (mt_leaf_ok (sp_if)) (mt_leaf_ok (sp_aload)))) (mt_node_ok (mt_leaf_ok (sp_get)) (mt_node_ok (mt_leaf_ok (sp_push)) (mt_leaf_ok (sp_aload)))))))
theorem sr_65_1 {g : xe_G} : mt_all (spP srS) (mb_65_1 g) := mt_node_ok (mt_node_ok (mt_node_ok (mt_node_ok (mt_leaf_ok (sp_get)) (mt_node_ok (mt_leaf_ok (sp_push)) (mt_leaf_ok (sp_bin)))) (mt_node_ok (mt_leaf_ok (rfl)) (mt_node_ok (mt_leaf_ok (trivial)) (mt_leaf_ok (sp_aload))))) (mt_node_ok (mt_node_ok (mt_leaf_ok (sp_get)) (mt_node_ok (mt_leaf_ok (sp_aload)) (mt_leaf_ok (sp_get)))) (mt_node_ok (mt_node_ok (mt_leaf_ok (sp_get)) (mt_leaf_ok (sp_iload))) (mt_node_ok (mt_leaf_ok (sp_aload)) (mt_leaf_ok (sp_get)))))) (mt_node_ok (mt_node_ok (mt_node_ok (mt_leaf_ok (sp_aload)) (mt_node_ok (mt_leaf_ok (sp_get)) (mt_leaf_ok (rfl)))) (mt_node_ok (mt_leaf_ok (sp_if)) (mt_node_ok (mt_leaf_ok (sp_aload)) (mt_leaf_ok (sp_get))))) (mt_node_ok (mt_node_ok (mt_leaf_ok (sp_push)) (mt_node_ok (mt_leaf_ok (sp_aload)) (mt_leaf_ok (sp_get)))) (mt_node_ok (mt_node_ok (mt_leaf_ok (rfl)) (mt_leaf_ok (trivial))) (mt_node_ok (mt_leaf_ok (sp_push)) (mt_leaf_ok (trivial))))))
theorem sr_65 {g : xe_G} : mt_all (spP srS) (mb_65 g).2.1 := mt_node_ok ((sr_65_0 (g := g))) ((sr_65_1 (g := g)))
theorem sr_66_0 {g : xe_G} : mt_all (spP srS) (mb_66_0 g) := mt_node_ok (mt_node_ok (mt_node_ok (mt_node_ok (mt_node_ok (mt_leaf_ok (sp_aload)) (mt_leaf_ok (sp_get))) (mt_node_ok (mt_leaf_ok (sp_iload)) (mt_leaf_ok (sp_push)))) (mt_node_ok (mt_node_ok (mt_leaf_ok (rfl)) (mt_leaf_ok (sp_if))) (mt_node_ok (mt_leaf_ok (sp_aload)) (mt_leaf_ok (sp_get))))) (mt_node_ok (mt_node_ok (mt_node_ok (mt_leaf_ok (sp_push)) (mt_leaf_ok (rfl))) (mt_node_ok (mt_leaf_ok (sp_if)) (mt_leaf_ok (sp_push)))) (mt_node_ok (mt_node_ok (mt_leaf_ok (sp_goto)) (mt_leaf_ok (sp_push))) (mt_node_ok (mt_leaf_ok (trivial)) (mt_node_ok (mt_leaf_ok (sp_aload)) (mt_leaf_ok (sp_get))))))) (mt_node_ok (mt_node_ok (mt_node_ok (mt_node_ok (mt_leaf_ok (sp_iload)) (mt_leaf_ok (sp_push))) (mt_node_ok (mt_leaf_ok (rfl)) (mt_leaf_ok (sp_if)))) (mt_node_ok (mt_node_ok (mt_leaf_ok (sp_aload)) (mt_leaf_ok (sp_get))) (mt_node_ok (mt_leaf_ok (sp_iload)) (mt_node_ok (mt_leaf_ok (rfl)) (mt_leaf_ok (sp_if)))))) (mt_node_ok (mt_node_ok (mt_node_ok (mt_leaf_ok (sp_aload)) (mt_leaf_ok (sp_get))) (mt_node_ok (mt_leaf_ok (sp_iload)) (mt_leaf_ok (rfl)))) (mt_node_ok (mt_node_ok (mt_leaf_ok (sp_if)) (mt_leaf_ok (sp_push))) (mt_node_ok (mt_leaf_ok (sp_goto)) (mt_node_ok (mt_leaf_ok (sp_push)) (mt_leaf_ok (trivial)))))))
theorem sr_66 {g : xe_G} : mt_all (spP srS) (mb_66 g).2.1 := (sr_66_0 (g := g))
theorem sr_67_0 {g : xe_G} : mt_all (spP srS) (mb_67_0 g) := mt_node_ok (mt_node_ok (mt_node_ok (mt_node_ok (mt_node_ok (mt_leaf_ok (sp_push)) (mt_leaf_ok (sp_isto))) (mt_node_ok (mt_leaf_ok (sp_iload)) (mt_leaf_ok (sp_aload)))) (mt_node_ok (mt_node_ok (mt_leaf_ok (sp_get)) (mt_leaf_ok (sp_get))) (mt_node_ok (mt_leaf_ok (sp_alen)) (mt_node_ok (mt_leaf_ok (sp_if2)) (mt_leaf_ok (sp_aload)))))) (mt_node_ok (mt_node_ok (mt_node_ok (mt_leaf_ok (sp_get)) (mt_leaf_ok (sp_get))) (mt_node_ok (mt_leaf_ok (sp_iload)) (mt_leaf_ok (sp_ald)))) (mt_node_ok (mt_node_ok (mt_leaf_ok (sp_asto)) (mt_leaf_ok (sp_aload))) (mt_node_ok (mt_leaf_ok (sp_null)) (mt_node_ok (mt_leaf_ok (sp_goto)) (mt_leaf_ok (sp_aload))))))) (mt_node_ok (mt_node_ok (mt_node_ok (mt_node_ok (mt_leaf_ok (sp_aload)) (mt_leaf_ok (sp_iload))) (mt_node_ok (mt_leaf_ok (rfl)) (mt_leaf_ok (sp_if)))) (mt_node_ok (mt_node_ok (mt_leaf_ok (sp_aload)) (mt_leaf_ok (sp_get))) (mt_node_ok (mt_leaf_ok (sp_aload)) (mt_node_ok (mt_leaf_ok (rfl)) (mt_leaf_ok (sp_if)))))) (mt_node_ok (mt_node_ok (mt_node_ok (mt_leaf_ok (sp_aload)) (mt_leaf_ok (sp_aload))) (mt_node_ok (mt_leaf_ok (rfl)) (mt_node_ok (mt_leaf_ok (sp_if)) (mt_leaf_ok (sp_push))))) (mt_node_ok (mt_node_ok (mt_leaf_ok (trivial)) (mt_leaf_ok (sp_iinc))) (mt_node_ok (mt_leaf_ok (sp_goto)) (mt_node_ok (mt_leaf_ok (sp_push)) (mt_leaf_ok (trivial)))))))
theorem sr_67 {g : xe_G} : mt_all (spP srS) (mb_67 g).2.1 := (sr_67_0 (g := g))
theorem sr_68_0 {g : xe_G} : mt_all (spP srS) (mb_68_0 g) := mt_node_ok (mt_node_ok (mt_node_ok (mt_node_ok (mt_leaf_ok (sp_aload)) (mt_node_ok (mt_leaf_ok (sp_drop)) (mt_leaf_ok (sp_aload)))) (mt_node_ok (mt_leaf_ok (sp_aload)) (mt_node_ok (mt_leaf_ok (sp_put)) (mt_leaf_ok (sp_aload))))) (mt_node_ok (mt_node_ok (mt_leaf_ok (sp_new)) (mt_node_ok (mt_leaf_ok (sp_dup)) (mt_leaf_ok (sp_push)))) (mt_node_ok (mt_leaf_ok (sp_push)) (mt_node_ok (mt_leaf_ok (rfl)) (mt_leaf_ok (sp_put)))))) (mt_node_ok (mt_node_ok (mt_node_ok (mt_leaf_ok (sp_aload)) (mt_node_ok (mt_leaf_ok (sp_push)) (mt_leaf_ok (sp_anew)))) (mt_node_ok (mt_leaf_ok (sp_put)) (mt_node_ok (mt_leaf_ok (sp_aload)) (mt_leaf_ok (sp_push))))) (mt_node_ok (mt_node_ok (mt_leaf_ok (sp_anew)) (mt_node_ok (mt_leaf_ok (sp_put)) (mt_leaf_ok (sp_aload)))) (mt_node_ok (mt_leaf_ok (sp_push)) (mt_node_ok (mt_leaf_ok (sp_put)) (mt_leaf_ok (trivial))))))
theorem sr_68 {g : xe_G} : mt_all (spP srS) (mb_68 g).2.1 := (sr_68_0 (g := g))
theorem sr_71_0 {g : xe_G} : mt_all (spP srS) (mb_71_0 g) := mt_node_ok (mt_node_ok (mt_node_ok (mt_leaf_ok (sp_aload)) (mt_node_ok (mt_leaf_ok (sp_get)) (mt_leaf_ok (sp_aload)))) (mt_node_ok (mt_leaf_ok (sp_get)) (mt_node_ok (mt_leaf_ok (rfl)) (mt_leaf_ok (sp_iload))))) (mt_node_ok (mt_node_ok (mt_leaf_ok (sp_bin)) (mt_node_ok (mt_leaf_ok (sp_if)) (mt_leaf_ok (sp_push)))) (mt_node_ok (mt_leaf_ok (sp_goto)) (mt_node_ok (mt_leaf_ok (sp_push)) (mt_leaf_ok (trivial)))))
theorem sr_71 {g : xe_G} : mt_all (spP srS) (mb_71 g).2.1 := (sr_71_0 (g := g))
theorem sr_74_0 {g : xe_G} : mt_all (spP srS) (mb_74_0 g) := mt_node_ok (mt_node_ok (mt_node_ok (mt_node_ok (mt_node_ok (mt_leaf_ok (sp_aload)) (mt_node_ok (mt_leaf_ok (sp_drop)) (mt_leaf_ok (sp_aload)))) (mt_node_ok (mt_leaf_ok (sp_get)) (mt_node_ok (mt_leaf_ok (sp_asto)) (mt_leaf_ok (sp_aload))))) (mt_node_ok (mt_node_ok (mt_leaf_ok (sp_aload)) (mt_node_ok (mt_leaf_ok (sp_iload)) (mt_leaf_ok (rfl)))) (mt_node_ok (mt_leaf_ok (sp_put)) (mt_node_ok (mt_leaf_ok (sp_aload)) (mt_leaf_ok (sp_aload)))))) (mt_node_ok (mt_node_ok (mt_node_ok (mt_leaf_ok (sp_iload)) (mt_node_ok (mt_leaf_ok (sp_push)) (mt_leaf_ok (sp_bin)))) (mt_node_ok (mt_leaf_ok (rfl)) (mt_node_ok (mt_leaf_ok (sp_put)) (mt_leaf_ok (sp_aload))))) (mt_node_ok (mt_node_ok (mt_leaf_ok (sp_aload)) (mt_node_ok (mt_leaf_ok (sp_iload)) (mt_leaf_ok (sp_push)))) (mt_node_ok (mt_leaf_ok (sp_bin)) (mt_node_ok (mt_leaf_ok (rfl)) (mt_leaf_ok (sp_put))))))) (mt_node_ok (mt_node_ok (mt_node_ok (mt_node_ok (mt_leaf_ok (sp_aload)) (mt_node_ok (mt_leaf_ok (sp_iload)) (mt_leaf_ok (sp_push)))) (mt_node_ok (mt_leaf_ok (sp_bin)) (mt_node_ok (mt_leaf_ok (sp_aload)) (mt_leaf_ok (sp_get))))) (mt_node_ok (mt_node_ok (mt_leaf_ok (sp_bin)) (mt_node_ok (mt_leaf_ok (sp_push)) (mt_leaf_ok (sp_bin)))) (mt_node_ok (mt_leaf_ok (sp_put)) (mt_node_ok (mt_leaf_ok (sp_aload)) (mt_leaf_ok (sp_aload)))))) (mt_node_ok (mt_node_ok (mt_node_ok (mt_leaf_ok (sp_aload)) (mt_node_ok (mt_leaf_ok (sp_get)) (mt_leaf_ok (sp_push)))) (mt_node_ok (mt_leaf_ok (sp_bin)) (mt_node_ok (mt_leaf_ok (rfl)) (mt_leaf_ok (sp_put))))) (mt_node_ok (mt_node_ok (mt_leaf_ok (sp_aload)) (mt_node_ok (mt_leaf_ok (sp_aload)) (mt_leaf_ok (sp_get)))) (mt_node_ok (mt_leaf_ok (sp_put)) (mt_node_ok (mt_leaf_ok (sp_aload)) (mt_leaf_ok (sp_aload)))))))
theorem sr_74_1 {g : xe_G} : mt_all (spP srS) (mb_74_1 g) := mt_node_ok (mt_node_ok (mt_node_ok (mt_node_ok (mt_leaf_ok (sp_get)) (mt_leaf_ok (sp_put))) (mt_node_ok (mt_leaf_ok (sp_aload)) (mt_leaf_ok (sp_new)))) (mt_node_ok (mt_node_ok (mt_leaf_ok (sp_dup)) (mt_leaf_ok (sp_aload))) (mt_node_ok (mt_leaf_ok (sp_iload)) (mt_leaf_ok (sp_push))))) (mt_node_ok (mt_node_ok (mt_node_ok (mt_leaf_ok (sp_bin)) (mt_leaf_ok (sp_aload))) (mt_node_ok (mt_leaf_ok (sp_get)) (mt_leaf_ok (rfl)))) (mt_node_ok (mt_node_ok (mt_leaf_ok (sp_put)) (mt_leaf_ok (sp_aload))) (mt_node_ok (mt_leaf_ok (sp_push)) (mt_node_ok (mt_leaf_ok (sp_put)) (mt_leaf_ok (trivial))))))
theorem sr_74 {g : xe_G} : mt_all (spP srS) (mb_74 g).2.1 := mt_node_ok ((sr_74_0 (g := g))) ((sr_74_1 (g := g)))
theorem sr_86_0 {g : xe_G} : mt_all (spP srS) (mb_86_0 g) := mt_node_ok (mt_node_ok (mt_node_ok (mt_leaf_ok (sp_aload)) (mt_node_ok (mt_leaf_ok (sp_drop)) (mt_leaf_ok (sp_aload)))) (mt_node_ok (mt_leaf_ok (sp_aload)) (mt_node_ok (mt_leaf_ok (sp_put)) (mt_leaf_ok (sp_aload))))) (mt_node_ok (mt_node_ok (mt_leaf_ok (sp_iload)) (mt_node_ok (mt_leaf_ok (sp_put)) (mt_leaf_ok (sp_aload)))) (mt_node_ok (mt_leaf_ok (sp_iload)) (mt_node_ok (mt_leaf_ok (sp_put)) (mt_leaf_ok (trivial)))))
theorem sr_86 {g : xe_G} : mt_all (spP srS) (mb_86 g).2.1 := (sr_86_0 (g := g))
theorem sr_106_0 {g : xe_G} : mt_all (spP srS) (mb_106_0 g) := mt_node_ok (mt_node_ok (mt_node_ok (mt_node_ok (mt_node_ok (mt_leaf_ok (sp_aload)) (mt_leaf_ok (sp_drop))) (mt_node_ok (mt_leaf_ok (sp_aload)) (mt_leaf_ok (sp_iload)))) (mt_node_ok (mt_node_ok (mt_leaf_ok (sp_put)) (mt_leaf_ok (sp_aload))) (mt_node_ok (mt_leaf_ok (sp_aload)) (mt_node_ok (mt_leaf_ok (sp_iload)) (mt_leaf_ok (rfl)))))) (mt_node_ok (mt_node_ok (mt_node_ok (mt_leaf_ok (sp_put)) (mt_leaf_ok (sp_aload))) (mt_node_ok (mt_leaf_ok (sp_aload)) (mt_leaf_ok (sp_iload)))) (mt_node_ok (mt_node_ok (mt_leaf_ok (sp_push)) (mt_leaf_ok (sp_bin))) (mt_node_ok (mt_leaf_ok (rfl)) (mt_node_ok (mt_leaf_ok (sp_put)) (mt_leaf_ok (sp_aload))))))) (mt_node_ok (mt_node_ok (mt_node_ok (mt_node_ok (mt_leaf_ok (sp_aload)) (mt_leaf_ok (sp_iload))) (mt_node_ok (mt_leaf_ok (sp_push)) (mt_leaf_ok (sp_bin)))) (mt_node_ok (mt_node_ok (mt_leaf_ok (rfl)) (mt_leaf_ok (sp_put))) (mt_node_ok (mt_leaf_ok (sp_aload)) (mt_node_ok (mt_leaf_ok (sp_aload)) (mt_leaf_ok (sp_iload)))))) (mt_node_ok (mt_node_ok (mt_node_ok (mt_leaf_ok (sp_push)) (mt_leaf_ok (sp_bin))) (mt_node_ok (mt_leaf_ok (rfl)) (mt_node_ok (mt_leaf_ok (sp_put)) (mt_leaf_ok (sp_aload))))) (mt_node_ok (mt_node_ok (mt_leaf_ok (sp_iload)) (mt_leaf_ok (sp_push))) (mt_node_ok (mt_leaf_ok (sp_bin)) (mt_node_ok (mt_leaf_ok (sp_put)) (mt_leaf_ok (trivial)))))))
theorem sr_106 {g : xe_G} : mt_all (spP srS) (mb_106 g).2.1 := (sr_106_0 (g := g))
theorem sr_108_0 {g : xe_G} : mt_all (spP srS) (mb_108_0 g) := mt_node_ok (mt_node_ok (mt_node_ok (mt_leaf_ok (sp_aload)) (mt_leaf_ok (sp_get))) (mt_node_ok (mt_leaf_ok (sp_iload)) (mt_leaf_ok (sp_bin)))) (mt_node_ok (mt_node_ok (mt_leaf_ok (sp_if)) (mt_leaf_ok (sp_push))) (mt_node_ok (mt_leaf_ok (sp_goto)) (mt_node_ok (mt_leaf_ok (sp_push)) (mt_leaf_ok (trivial)))))
theorem sr_108 {g : xe_G} : mt_all (spP srS) (mb_108 g).2.1 := (sr_108_0 (g := g))
theorem sr_110_0 {g : xe_G} : mt_all (spP srS) (mb_110_0 g) := mt_node_ok (mt_node_ok (mt_node_ok (mt_node_ok (mt_node_ok (mt_leaf_ok (sp_aload)) (mt_leaf_ok (sp_drop))) (mt_node_ok (mt_leaf_ok (sp_aload)) (mt_node_ok (mt_leaf_ok (sp_iload)) (mt_leaf_ok (sp_put))))) (mt_node_ok (mt_node_ok (mt_leaf_ok (sp_push)) (mt_leaf_ok (sp_iload))) (mt_node_ok (mt_leaf_ok (sp_iload)) (mt_node_ok (mt_leaf_ok (sp_push)) (mt_leaf_ok (sp_div)))))) (mt_node_ok (mt_node_ok (mt_node_ok (mt_leaf_ok (sp_push)) (mt_leaf_ok (sp_bin))) (mt_node_ok (mt_leaf_ok (sp_mm)) (mt_node_ok (mt_leaf_ok (sp_mm)) (mt_leaf_ok (sp_isto))))) (mt_node_ok (mt_node_ok (mt_leaf_ok (sp_aload)) (mt_node_ok (mt_leaf_ok (sp_iload)) (mt_leaf_ok (sp_newa)))) (mt_node_ok (mt_leaf_ok (sp_put)) (mt_node_ok (mt_leaf_ok (sp_aload)) (mt_leaf_ok (sp_iload))))))) (mt_node_ok (mt_node_ok (mt_node_ok (mt_node_ok (mt_leaf_ok (sp_newa)) (mt_leaf_ok (sp_put))) (mt_node_ok (mt_leaf_ok (sp_aload)) (mt_node_ok (mt_leaf_ok (sp_iload)) (mt_leaf_ok (sp_newa))))) (mt_node_ok (mt_node_ok (mt_leaf_ok (sp_put)) (mt_leaf_ok (sp_aload))) (mt_node_ok (mt_leaf_ok (sp_iload)) (mt_node_ok (mt_leaf_ok (sp_newa)) (mt_leaf_ok (sp_put)))))) (mt_node_ok (mt_node_ok (mt_node_ok (mt_leaf_ok (sp_aload)) (mt_leaf_ok (sp_iload))) (mt_node_ok (mt_leaf_ok (sp_newa)) (mt_node_ok (mt_leaf_ok (sp_put)) (mt_leaf_ok (sp_aload))))) (mt_node_ok (mt_node_ok (mt_leaf_ok (sp_push)) (mt_node_ok (mt_leaf_ok (sp_iload)) (mt_leaf_ok (sp_mm)))) (mt_node_ok (mt_leaf_ok (sp_newa)) (mt_node_ok (mt_leaf_ok (sp_put)) (mt_leaf_ok (trivial)))))))
theorem sr_110 {g : xe_G} : mt_all (spP srS) (mb_110 g).2.1 := (sr_110_0 (g := g))
theorem sr_111_0 {g : xe_G} : mt_all (spP srS) (mb_111_0 g) := mt_node_ok (mt_node_ok (mt_node_ok (mt_node_ok (mt_leaf_ok (sp_aload)) (mt_leaf_ok (sp_get))) (mt_node_ok (mt_leaf_ok (sp_aload)) (mt_node_ok (mt_leaf_ok (sp_get)) (mt_leaf_ok (sp_alen))))) (mt_node_ok (mt_node_ok (mt_leaf_ok (sp_if2)) (mt_leaf_ok (sp_aload))) (mt_node_ok (mt_leaf_ok (sp_get)) (mt_node_ok (mt_leaf_ok (sp_aload)) (mt_leaf_ok (sp_get)))))) (mt_node_ok (mt_node_ok (mt_node_ok (mt_leaf_ok (sp_iload)) (mt_leaf_ok (sp_un))) (mt_node_ok (mt_leaf_ok (sp_ast)) (mt_node_ok (mt_leaf_ok (sp_aload)) (mt_leaf_ok (sp_dup))))) (mt_node_ok (mt_node_ok (mt_leaf_ok (sp_get)) (mt_leaf_ok (sp_push))) (mt_node_ok (mt_leaf_ok (sp_bin)) (mt_node_ok (mt_leaf_ok (sp_put)) (mt_leaf_ok (trivial))))))
theorem sr_111 {g : xe_G} : mt_all (spP srS) (mb_111 g).2.1 := (sr_111_0 (g := g))
theorem sr_112_0 {g : xe_G} : mt_all (spP srS) (mb_112_0 g) := mt_node_ok (mt_node_ok (mt_node_ok (mt_leaf_ok (sp_aload)) (mt_node_ok (mt_leaf_ok (sp_iload)) (mt_leaf_ok (rfl)))) (mt_node_ok (mt_leaf_ok (sp_if)) (mt_node_ok (mt_leaf_ok (sp_aload)) (mt_leaf_ok (sp_get))))) (mt_node_ok (mt_node_ok (mt_leaf_ok (sp_iload)) (mt_node_ok (mt_leaf_ok (sp_ald)) (mt_leaf_ok (sp_push)))) (mt_node_ok (mt_node_ok (mt_leaf_ok (sp_div)) (mt_leaf_ok (sp_goto))) (mt_node_ok (mt_leaf_ok (sp_push)) (mt_leaf_ok (trivial)))))
theorem sr_112 {g : xe_G} : mt_all (spP srS) (mb_112 g).2.1 := (sr_112_0 (g := g))
theorem sr_113_0 {g : xe_G} : mt_all (spP srS) (mb_113_0 g) := mt_node_ok (mt_node_ok (mt_node_ok (mt_node_ok (mt_leaf_ok (sp_aload)) (mt_node_ok (mt_leaf_ok (sp_iload)) (mt_leaf_ok (rfl)))) (mt_node_ok (mt_leaf_ok (sp_push)) (mt_node_ok (mt_leaf_ok (sp_if2)) (mt_leaf_ok (sp_iload))))) (mt_node_ok (mt_node_ok (mt_leaf_ok (sp_if)) (mt_node_ok (mt_leaf_ok (sp_iload)) (mt_leaf_ok (sp_aload)))) (mt_node_ok (mt_leaf_ok (sp_get)) (mt_node_ok (mt_leaf_ok (sp_iload)) (mt_leaf_ok (sp_ald)))))) (mt_node_ok (mt_node_ok (mt_node_ok (mt_leaf_ok (sp_if2)) (mt_node_ok (mt_leaf_ok (sp_push)) (mt_leaf_ok (sp_goto)))) (mt_node_ok (mt_leaf_ok (sp_aload)) (mt_node_ok (mt_leaf_ok (sp_get)) (mt_leaf_ok (sp_aload))))) (mt_node_ok (mt_node_ok (mt_leaf_ok (sp_get)) (mt_node_ok (mt_leaf_ok (sp_iload)) (mt_leaf_ok (sp_ald)))) (mt_node_ok (mt_node_ok (mt_leaf_ok (sp_iload)) (mt_leaf_ok (sp_bin))) (mt_node_ok (mt_leaf_ok (sp_ald)) (mt_leaf_ok (trivial))))))
theorem sr_113 {g : xe_G} : mt_all (spP srS) (mb_113 g).2.1 := (sr_113_0 (g := g))
theorem sr_114_0 {g : xe_G} : mt_all (spP srS) (mb_114_0 g) := mt_node_ok (mt_node_ok (mt_node_ok (mt_node_ok (mt_node_ok (mt_leaf_ok (sp_push)) (mt_leaf_ok (sp_isto))) (mt_node_ok (mt_leaf_ok (sp_iload)) (mt_leaf_ok (sp_aload)))) (mt_node_ok (mt_node_ok (mt_leaf_ok (sp_get)) (mt_leaf_ok (sp_alen))) (mt_node_ok (mt_leaf_ok (sp_if2)) (mt_leaf_ok (sp_aload))))) (mt_node_ok (mt_node_ok (mt_node_ok (mt_leaf_ok (sp_get)) (mt_leaf_ok (sp_iload))) (mt_node_ok (mt_leaf_ok (sp_ald)) (mt_leaf_ok (sp_push)))) (mt_node_ok (mt_node_ok (mt_leaf_ok (sp_if2)) (mt_leaf_ok (sp_aload))) (mt_node_ok (mt_leaf_ok (sp_get)) (mt_node_ok (mt_leaf_ok (sp_iload)) (mt_leaf_ok (sp_aload))))))) (mt_node_ok (mt_node_ok (mt_node_ok (mt_node_ok (mt_leaf_ok (sp_aload)) (mt_leaf_ok (sp_get))) (mt_node_ok (mt_leaf_ok (sp_iload)) (mt_leaf_ok (sp_ald)))) (mt_node_ok (mt_node_ok (mt_leaf_ok (sp_aload)) (mt_leaf_ok (sp_get))) (mt_node_ok (mt_leaf_ok (sp_iload)) (mt_node_ok (mt_leaf_ok (sp_ald)) (mt_leaf_ok (sp_aload)))))) (mt_node_ok (mt_node_ok (mt_node_ok (mt_leaf_ok (sp_get)) (mt_leaf_ok (sp_iload))) (mt_node_ok (mt_leaf_ok (sp_ald)) (mt_leaf_ok (sp_bin)))) (mt_node_ok (mt_node_ok (mt_leaf_ok (rfl)) (mt_leaf_ok (sp_ast))) (mt_node_ok (mt_leaf_ok (sp_iinc)) (mt_node_ok (mt_leaf_ok (sp_goto)) (mt_leaf_ok (trivial)))))))
theorem sr_114 {g : xe_G} : mt_all (spP srS) (mb_114 g).2.1 := (sr_114_0 (g := g))
theorem sr_115_0 {g : xe_G} : mt_all (spP srS) (mb_115_0 g) := mt_node_ok (mt_node_ok (mt_leaf_ok (sp_aload)) (mt_node_ok (mt_leaf_ok (sp_aload)) (mt_leaf_ok (sp_iload)))) (mt_node_ok (mt_leaf_ok (rfl)) (mt_node_ok (mt_leaf_ok (rfl)) (mt_leaf_ok (trivial))))
theorem sr_115 {g : xe_G} : mt_all (spP srS) (mb_115 g).2.1 := (sr_115_0 (g := g))
theorem sr_117_0 {g : xe_G} : mt_all (spP srS) (mb_117_0 g) := mt_node_ok (mt_node_ok (mt_node_ok (mt_node_ok (mt_leaf_ok (sp_iload)) (mt_leaf_ok (sp_if))) (mt_node_ok (mt_leaf_ok (sp_iload)) (mt_node_ok (mt_leaf_ok (sp_aload)) (mt_leaf_ok (sp_get))))) (mt_node_ok (mt_node_ok (mt_leaf_ok (sp_alen)) (mt_leaf_ok (sp_if2))) (mt_node_ok (mt_leaf_ok (sp_aload)) (mt_node_ok (mt_leaf_ok (sp_get)) (mt_leaf_ok (sp_iload)))))) (mt_node_ok (mt_node_ok (mt_node_ok (mt_leaf_ok (sp_ald)) (mt_leaf_ok (sp_push))) (mt_node_ok (mt_leaf_ok (sp_if2)) (mt_node_ok (mt_leaf_ok (sp_push)) (mt_leaf_ok (sp_goto))))) (mt_node_ok (mt_node_ok (mt_leaf_ok (sp_aload)) (mt_leaf_ok (sp_get))) (mt_node_ok (mt_leaf_ok (sp_iload)) (mt_node_ok (mt_leaf_ok (sp_ald)) (mt_leaf_ok (trivial))))))
theorem sr_117 {g : xe_G} : mt_all (spP srS) (mb_117 g).2.1 := (sr_117_0 (g := g))
theorem sr_118_0 {g : xe_G} : mt_all (spP srS) (mb_118_0 g) := mt_node_ok (mt_node_ok (mt_node_ok (mt_node_ok (mt_leaf_ok (sp_push)) (mt_node_ok (mt_leaf_ok (sp_isto)) (mt_leaf_ok (sp_iload)))) (mt_node_ok (mt_node_ok (mt_leaf_ok (sp_aload)) (mt_leaf_ok (sp_iload))) (mt_node_ok (mt_leaf_ok (rfl)) (mt_leaf_ok (sp_if2))))) (mt_node_ok (mt_node_ok (mt_leaf_ok (sp_aload)) (mt_node_ok (mt_leaf_ok (sp_get)) (mt_leaf_ok (sp_aload)))) (mt_node_ok (mt_node_ok (mt_leaf_ok (sp_get)) (mt_leaf_ok (sp_iload))) (mt_node_ok (mt_leaf_ok (sp_ald)) (mt_leaf_ok (sp_iload)))))) (mt_node_ok (mt_node_ok (mt_node_ok (mt_leaf_ok (sp_bin)) (mt_node_ok (mt_leaf_ok (sp_ald)) (mt_leaf_ok (sp_isto)))) (mt_node_ok (mt_node_ok (mt_leaf_ok (sp_iload)) (mt_leaf_ok (sp_push))) (mt_node_ok (mt_leaf_ok (sp_if2)) (mt_leaf_ok (sp_iload))))) (mt_node_ok (mt_node_ok (mt_node_ok (mt_leaf_ok (sp_push)) (mt_leaf_ok (sp_if2))) (mt_node_ok (mt_leaf_ok (sp_push)) (mt_leaf_ok (trivial)))) (mt_node_ok (mt_node_ok (mt_leaf_ok (sp_iinc)) (mt_leaf_ok (sp_goto))) (mt_node_ok (mt_leaf_ok (sp_push)) (mt_leaf_ok (trivial))))))
theorem sr_118 {g : xe_G} : mt_all (spP srS) (mb_118 g).2.1 := (sr_118_0 (g := g))
theorem sr_119_0 {g : xe_G} : mt_all (spP srS) (mb_119_0 g) := mt_node_ok (mt_node_ok (mt_node_ok (mt_node_ok (mt_leaf_ok (sp_aload)) (mt_leaf_ok (sp_iload))) (mt_node_ok (mt_leaf_ok (rfl)) (mt_leaf_ok (sp_if)))) (mt_node_ok (mt_node_ok (mt_leaf_ok (sp_aload)) (mt_leaf_ok (sp_get))) (mt_node_ok (mt_leaf_ok (sp_iload)) (mt_leaf_ok (sp_ald))))) (mt_node_ok (mt_node_ok (mt_node_ok (mt_leaf_ok (sp_push)) (mt_leaf_ok (sp_bin))) (mt_node_ok (mt_leaf_ok (sp_push)) (mt_leaf_ok (sp_if2)))) (mt_node_ok (mt_node_ok (mt_leaf_ok (sp_push)) (mt_leaf_ok (sp_goto))) (mt_node_ok (mt_leaf_ok (sp_push)) (mt_leaf_ok (trivial)))))
theorem sr_119 {g : xe_G} : mt_all (spP srS) (mb_119 g).2.1 := (sr_119_0 (g := g))
theorem sr_120_0 {g : xe_G} : mt_all (spP srS) (mb_120_0 g) := mt_node_ok (mt_node_ok (mt_node_ok (mt_node_ok (mt_node_ok (mt_leaf_ok (sp_aload)) (mt_leaf_ok (sp_iload))) (mt_node_ok (mt_leaf_ok (sp_push)) (mt_leaf_ok (rfl)))) (mt_node_ok (mt_node_ok (mt_leaf_ok (sp_push)) (mt_leaf_ok (sp_if2))) (mt_node_ok (mt_leaf_ok (sp_aload)) (mt_node_ok (mt_leaf_ok (sp_iload)) (mt_leaf_ok (rfl)))))) (mt_node_ok (mt_node_ok (mt_node_ok (mt_leaf_ok (trivial)) (mt_leaf_ok (sp_aload))) (mt_node_ok (mt_leaf_ok (sp_iload)) (mt_node_ok (mt_leaf_ok (rfl)) (mt_leaf_ok (sp_push))))) (mt_node_ok (mt_node_ok (mt_leaf_ok (sp_if2)) (mt_leaf_ok (sp_aload))) (mt_node_ok (mt_leaf_ok (sp_get)) (mt_node_ok (mt_leaf_ok (sp_iload)) (mt_leaf_ok (sp_ald))))))) (mt_node_ok (mt_node_ok (mt_node_ok (mt_node_ok (mt_leaf_ok (sp_goto)) (mt_leaf_ok (sp_push))) (mt_node_ok (mt_leaf_ok (sp_isto)) (mt_leaf_ok (sp_iload)))) (mt_node_ok (mt_node_ok (mt_leaf_ok (sp_aload)) (mt_leaf_ok (sp_iload))) (mt_node_ok (mt_leaf_ok (rfl)) (mt_node_ok (mt_leaf_ok (sp_bin)) (mt_leaf_ok (sp_isto)))))) (mt_node_ok (mt_node_ok (mt_node_ok (mt_leaf_ok (sp_aload)) (mt_leaf_ok (sp_iload))) (mt_node_ok (mt_leaf_ok (sp_iload)) (mt_node_ok (mt_leaf_ok (rfl)) (mt_leaf_ok (sp_iload))))) (mt_node_ok (mt_node_ok (mt_leaf_ok (sp_if2)) (mt_leaf_ok (sp_push))) (mt_node_ok (mt_leaf_ok (sp_goto)) (mt_node_ok (mt_leaf_ok (sp_push)) (mt_leaf_ok (trivial)))))))
theorem sr_120 {g : xe_G} : mt_all (spP srS) (mb_120 g).2.1 := (sr_120_0 (g := g))
theorem sr_121_0 {g : xe_G} : mt_all (spP srS) (mb_121_0 g) := mt_node_ok (mt_node_ok (mt_node_ok (mt_node_ok (mt_leaf_ok (sp_aload)) (mt_leaf_ok (sp_iload))) (mt_node_ok (mt_leaf_ok (rfl)) (mt_node_ok (mt_leaf_ok (sp_push)) (mt_leaf_ok (sp_if2))))) (mt_node_ok (mt_node_ok (mt_leaf_ok (sp_aload)) (mt_leaf_ok (sp_get))) (mt_node_ok (mt_leaf_ok (sp_iload)) (mt_node_ok (mt_leaf_ok (sp_ald)) (mt_leaf_ok (sp_if)))))) (mt_node_ok (mt_node_ok (mt_node_ok (mt_leaf_ok (sp_aload)) (mt_leaf_ok (sp_get))) (mt_node_ok (mt_leaf_ok (sp_iload)) (mt_node_ok (mt_leaf_ok (sp_ald)) (mt_leaf_ok (sp_push))))) (mt_node_ok (mt_node_ok (mt_leaf_ok (sp_if2)) (mt_leaf_ok (sp_push))) (mt_node_ok (mt_leaf_ok (sp_goto)) (mt_node_ok (mt_leaf_ok (sp_push)) (mt_leaf_ok (trivial))))))
theorem sr_121 {g : xe_G} : mt_all (spP srS) (mb_121 g).2.1 := (sr_121_0 (g := g))
theorem sr_122_0 {g : xe_G} : mt_all (spP srS) (mb_122_0 g) := mt_node_ok (mt_node_ok (mt_node_ok (mt_leaf_ok (sp_aload)) (mt_node_ok (mt_leaf_ok (sp_iload)) (mt_leaf_ok (rfl)))) (mt_node_ok (mt_node_ok (mt_leaf_ok (sp_push)) (mt_leaf_ok (sp_if2))) (mt_node_ok (mt_leaf_ok (sp_aload)) (mt_leaf_ok (sp_get))))) (mt_node_ok (mt_node_ok (mt_node_ok (mt_leaf_ok (sp_iload)) (mt_leaf_ok (sp_ald))) (mt_node_ok (mt_leaf_ok (sp_push)) (mt_leaf_ok (sp_if2)))) (mt_node_ok (mt_node_ok (mt_leaf_ok (sp_push)) (mt_leaf_ok (sp_goto))) (mt_node_ok (mt_leaf_ok (sp_push)) (mt_leaf_ok (trivial)))))
theorem sr_122 {g : xe_G} : mt_all (spP srS) (mb_122 g).2.1 := (sr_122_0 (g := g))
theorem sr_123_0 {g : xe_G} : mt_all (spP srS) (mb_123_0 g) := mt_node_ok (mt_node_ok (mt_node_ok (mt_node_ok (mt_leaf_ok (sp_aload)) (mt_leaf_ok (sp_iload))) (mt_node_ok (mt_leaf_ok (rfl)) (mt_leaf_ok (sp_push)))) (mt_node_ok (mt_node_ok (mt_leaf_ok (sp_if2)) (mt_leaf_ok (sp_aload))) (mt_node_ok (mt_leaf_ok (sp_aload)) (mt_node_ok (mt_leaf_ok (sp_get)) (mt_leaf_ok (sp_iload)))))) (mt_node_ok (mt_node_ok (mt_node_ok (mt_leaf_ok (sp_ald)) (mt_leaf_ok (sp_push))) (mt_node_ok (mt_leaf_ok (rfl)) (mt_leaf_ok (sp_push)))) (mt_node_ok (mt_node_ok (mt_leaf_ok (sp_if2)) (mt_leaf_ok (sp_push))) (mt_node_ok (mt_leaf_ok (sp_goto)) (mt_node_ok (mt_leaf_ok (sp_push)) (mt_leaf_ok (trivial))))))
theorem sr_123 {g : xe_G} : mt_all (spP srS) (mb_123 g).2.1 := (sr_123_0 (g := g))
theorem sr_124_0 {g : xe_G} : mt_all (spP srS) (mb_124_0 g) := mt_node_ok (mt_node_ok (mt_node_ok (mt_node_ok (mt_node_ok (mt_leaf_ok (sp_push)) (mt_leaf_ok (sp_isto))) (mt_node_ok (mt_leaf_ok (sp_iload)) (mt_node_ok (mt_leaf_ok (sp_aload)) (mt_leaf_ok (sp_iload))))) (mt_node_ok (mt_node_ok (mt_leaf_ok (rfl)) (mt_leaf_ok (sp_if2))) (mt_node_ok (mt_leaf_ok (sp_aload)) (mt_node_ok (mt_leaf_ok (sp_get)) (mt_leaf_ok (sp_aload)))))) (mt_node_ok (mt_node_ok (mt_node_ok (mt_leaf_ok (sp_get)) (mt_leaf_ok (sp_iload))) (mt_node_ok (mt_leaf_ok (sp_ald)) (mt_node_ok (mt_leaf_ok (sp_iload)) (mt_leaf_ok (sp_bin))))) (mt_node_ok (mt_node_ok (mt_leaf_ok (sp_ald)) (mt_leaf_ok (sp_isto))) (mt_node_ok (mt_leaf_ok (sp_iload)) (mt_node_ok (mt_leaf_ok (sp_push)) (mt_leaf_ok (sp_if2))))))) (mt_node_ok (mt_node_ok (mt_node_ok (mt_node_ok (mt_leaf_ok (sp_iload)) (mt_leaf_ok (sp_push))) (mt_node_ok (mt_leaf_ok (sp_if2)) (mt_node_ok (mt_leaf_ok (sp_iload)) (mt_leaf_ok (sp_push))))) (mt_node_ok (mt_node_ok (mt_leaf_ok (sp_if2)) (mt_leaf_ok (sp_iload))) (mt_node_ok (mt_leaf_ok (sp_push)) (mt_node_ok (mt_leaf_ok (sp_if2)) (mt_leaf_ok (sp_push)))))) (mt_node_ok (mt_node_ok (mt_node_ok (mt_leaf_ok (trivial)) (mt_leaf_ok (sp_iinc))) (mt_node_ok (mt_leaf_ok (sp_goto)) (mt_node_ok (mt_leaf_ok (sp_aload)) (mt_leaf_ok (sp_iload))))) (mt_node_ok (mt_node_ok (mt_leaf_ok (rfl)) (mt_node_ok (mt_leaf_ok (sp_if)) (mt_leaf_ok (sp_push)))) (mt_node_ok (mt_leaf_ok (sp_goto)) (mt_node_ok (mt_leaf_ok (sp_push)) (mt_leaf_ok (trivial)))))))
theorem sr_124 {g : xe_G} : mt_all (spP srS) (mb_124 g).2.1 := (sr_124_0 (g := g))
theorem sr_125_0 {g : xe_G} : mt_all (spP srS) (mb_125_0 g) := mt_node_ok (mt_node_ok (mt_node_ok (mt_leaf_ok (sp_aload)) (mt_node_ok (mt_leaf_ok (sp_iload)) (mt_leaf_ok (rfl)))) (mt_node_ok (mt_node_ok (mt_leaf_ok (sp_isto)) (mt_leaf_ok (sp_iload))) (mt_node_ok (mt_leaf_ok (sp_push)) (mt_leaf_ok (sp_if2))))) (mt_node_ok (mt_node_ok (mt_leaf_ok (sp_iload)) (mt_node_ok (mt_leaf_ok (sp_push)) (mt_leaf_ok (sp_if2)))) (mt_node_ok (mt_node_ok (mt_leaf_ok (sp_push)) (mt_leaf_ok (sp_goto))) (mt_node_ok (mt_leaf_ok (sp_push)) (mt_leaf_ok (trivial)))))
theorem sr_125 {g : xe_G} : mt_all (spP srS) (mb_125 g).2.1 := (sr_125_0 (g := g))
theorem sr_126_0 {g : xe_G} : mt_all (spP srS) (mb_126_0 g) := mt_node_ok (mt_node_ok (mt_node_ok (mt_node_ok (mt_node_ok (mt_leaf_ok (sp_iload)) (mt_node_ok (mt_leaf_ok (sp_isto)) (mt_leaf_ok (sp_push)))) (mt_node_ok (mt_leaf_ok (sp_isto)) (mt_node_ok (mt_leaf_ok (sp_iload)) (mt_leaf_ok (sp_push))))) (mt_node_ok (mt_node_ok (mt_leaf_ok (sp_if2)) (mt_node_ok (mt_leaf_ok (sp_iload)) (mt_leaf_ok (sp_iload)))) (mt_node_ok (mt_leaf_ok (sp_if2)) (mt_node_ok (mt_leaf_ok (sp_aload)) (mt_leaf_ok (sp_get)))))) (mt_node_ok (mt_node_ok (mt_node_ok (mt_leaf_ok (sp_iload)) (mt_node_ok (mt_leaf_ok (sp_ald)) (mt_leaf_ok (sp_push)))) (mt_node_ok (mt_leaf_ok (sp_if2)) (mt_node_ok (mt_leaf_ok (sp_iload)) (mt_leaf_ok (sp_aload))))) (mt_node_ok (mt_node_ok (mt_leaf_ok (sp_get)) (mt_node_ok (mt_leaf_ok (sp_iload)) (mt_leaf_ok (sp_ald)))) (mt_node_ok (mt_leaf_ok (rfl)) (mt_node_ok (mt_leaf_ok (sp_bin)) (mt_leaf_ok (sp_isto))))))) (mt_node_ok (mt_node_ok (mt_node_ok (mt_node_ok (mt_leaf_ok (sp_aload)) (mt_node_ok (mt_leaf_ok (sp_iload)) (mt_leaf_ok (sp_iload)))) (mt_node_ok (mt_leaf_ok (rfl)) (mt_node_ok (mt_leaf_ok (sp_isto)) (mt_leaf_ok (sp_iload))))) (mt_node_ok (mt_node_ok (mt_leaf_ok (sp_if)) (mt_node_ok (mt_leaf_ok (sp_push)) (mt_leaf_ok (trivial)))) (mt_node_ok (mt_leaf_ok (sp_iload)) (mt_node_ok (mt_leaf_ok (sp_push)) (mt_leaf_ok (sp_bin)))))) (mt_node_ok (mt_node_ok (mt_node_ok (mt_leaf_ok (sp_isto)) (mt_node_ok (mt_leaf_ok (sp_iload)) (mt_leaf_ok (sp_iload)))) (mt_node_ok (mt_leaf_ok (sp_if2)) (mt_node_ok (mt_leaf_ok (sp_iload)) (mt_leaf_ok (sp_push))))) (mt_node_ok (mt_node_ok (mt_leaf_ok (sp_if2)) (mt_node_ok (mt_leaf_ok (sp_push)) (mt_leaf_ok (trivial)))) (mt_node_ok (mt_leaf_ok (sp_aload)) (mt_node_ok (mt_leaf_ok (sp_get)) (mt_leaf_ok (sp_iload)))))))
theorem sr_126_1 {g : xe_G} : mt_all (spP srS) (mb_126_1 g) := mt_node_ok (mt_node_ok (mt_node_ok (mt_node_ok (mt_node_ok (mt_leaf_ok (sp_ald)) (mt_leaf_ok (sp_push))) (mt_node_ok (mt_leaf_ok (sp_if2)) (mt_leaf_ok (sp_iload)))) (mt_node_ok (mt_node_ok (mt_leaf_ok (sp_push)) (mt_leaf_ok (sp_bin))) (mt_node_ok (mt_leaf_ok (sp_iload)) (mt_leaf_ok (sp_if2))))) (mt_node_ok (mt_node_ok (mt_node_ok (mt_leaf_ok (sp_push)) (mt_leaf_ok (sp_iload))) (mt_node_ok (mt_leaf_ok (sp_bin)) (mt_leaf_ok (trivial)))) (mt_node_ok (mt_node_ok (mt_leaf_ok (sp_aload)) (mt_leaf_ok (sp_iload))) (mt_node_ok (mt_leaf_ok (sp_iload)) (mt_leaf_ok (rfl)))))) (mt_node_ok (mt_node_ok (mt_node_ok (mt_node_ok (mt_leaf_ok (sp_iload)) (mt_leaf_ok (sp_if2))) (mt_node_ok (mt_leaf_ok (sp_push)) (mt_leaf_ok (trivial)))) (mt_node_ok (mt_node_ok (mt_leaf_ok (sp_push)) (mt_leaf_ok (sp_push))) (mt_node_ok (mt_leaf_ok (sp_aload)) (mt_leaf_ok (sp_get))))) (mt_node_ok (mt_node_ok (mt_node_ok (mt_leaf_ok (sp_iload)) (mt_leaf_ok (sp_ald))) (mt_node_ok (mt_leaf_ok (rfl)) (mt_leaf_ok (sp_bin)))) (mt_node_ok (mt_node_ok (mt_leaf_ok (sp_bin)) (mt_leaf_ok (sp_iload))) (mt_node_ok (mt_leaf_ok (sp_bin)) (mt_leaf_ok (trivial))))))
theorem sr_126 {g : xe_G} : mt_all (spP srS) (mb_126 g).2.1 := mt_node_ok ((sr_126_0 (g := g))) ((sr_126_1 (g := g)))
theorem sr_127_0 {g : xe_G} : mt_all (spP srS) (mb_127_0 g) := mt_node_ok (mt_node_ok (mt_node_ok (mt_node_ok (mt_node_ok (mt_leaf_ok (sp_iload)) (mt_node_ok (mt_leaf_ok (sp_isto)) (mt_leaf_ok (sp_iload)))) (mt_node_ok (mt_leaf_ok (sp_isto)) (mt_node_ok (mt_leaf_ok (sp_iload)) (mt_leaf_ok (sp_iload))))) (mt_node_ok (mt_node_ok (mt_leaf_ok (sp_if2)) (mt_node_ok (mt_leaf_ok (sp_aload)) (mt_leaf_ok (sp_get)))) (mt_node_ok (mt_leaf_ok (sp_iload)) (mt_node_ok (mt_leaf_ok (sp_ald)) (mt_leaf_ok (sp_isto)))))) (mt_node_ok (mt_node_ok (mt_node_ok (mt_leaf_ok (sp_iload)) (mt_node_ok (mt_leaf_ok (sp_push)) (mt_leaf_ok (sp_if2)))) (mt_node_ok (mt_leaf_ok (sp_iload)) (mt_node_ok (mt_leaf_ok (sp_iload)) (mt_leaf_ok (sp_if2))))) (mt_node_ok (mt_node_ok (mt_leaf_ok (sp_iload)) (mt_node_ok (mt_leaf_ok (sp_goto)) (mt_leaf_ok (sp_push)))) (mt_node_ok (mt_leaf_ok (trivial)) (mt_node_ok (mt_leaf_ok (sp_iload)) (mt_leaf_ok (sp_push))))))) (mt_node_ok (mt_node_ok (mt_node_ok (mt_node_ok (mt_leaf_ok (sp_if2)) (mt_node_ok (mt_leaf_ok (sp_iload)) (mt_leaf_ok (sp_push)))) (mt_node_ok (mt_leaf_ok (sp_if2)) (mt_node_ok (mt_leaf_ok (sp_iload)) (mt_leaf_ok (sp_push))))) (mt_node_ok (mt_node_ok (mt_leaf_ok (sp_if2)) (mt_node_ok (mt_leaf_ok (sp_iload)) (mt_leaf_ok (sp_iload)))) (mt_node_ok (mt_leaf_ok (sp_if2)) (mt_node_ok (mt_leaf_ok (sp_push)) (mt_leaf_ok (trivial)))))) (mt_node_ok (mt_node_ok (mt_node_ok (mt_leaf_ok (sp_iload)) (mt_node_ok (mt_leaf_ok (sp_push)) (mt_leaf_ok (sp_if2)))) (mt_node_ok (mt_leaf_ok (sp_iload)) (mt_node_ok (mt_leaf_ok (sp_push)) (mt_leaf_ok (sp_bin))))) (mt_node_ok (mt_node_ok (mt_leaf_ok (sp_isto)) (mt_node_ok (mt_leaf_ok (sp_iinc)) (mt_leaf_ok (sp_goto)))) (mt_node_ok (mt_leaf_ok (sp_iload)) (mt_node_ok (mt_leaf_ok (sp_iload)) (mt_leaf_ok (sp_if2)))))))
theorem sr_127_1 {g : xe_G} : mt_all (spP srS) (mb_127_1 g) := mt_node_ok (mt_node_ok (mt_leaf_ok (sp_iload)) (mt_leaf_ok (sp_goto))) (mt_node_ok (mt_leaf_ok (sp_push)) (mt_leaf_ok (trivial)))
theorem sr_127 {g : xe_G} : mt_all (spP srS) (mb_127 g).2.1 := mt_node_ok ((sr_127_0 (g := g))) ((sr_127_1 (g := g)))
theorem sr_128_0 {g : xe_G} : mt_all (spP srS) (mb_128_0 g) := mt_node_ok (mt_node_ok (mt_leaf_ok (sp_aload)) (mt_node_ok (mt_leaf_ok (sp_aload)) (mt_leaf_ok (sp_iload)))) (mt_node_ok (mt_leaf_ok (rfl)) (mt_node_ok (mt_leaf_ok (rfl)) (mt_leaf_ok (trivial))))
theorem sr_128 {g : xe_G} : mt_all (spP srS) (mb_128 g).2.1 := (sr_128_0 (g := g))
theorem sr_129_0 {g : xe_G} : mt_all (spP srS) (mb_129_0 g) := mt_node_ok (mt_node_ok (mt_leaf_ok (sp_aload)) (mt_node_ok (mt_leaf_ok (sp_aload)) (mt_leaf_ok (sp_iload)))) (mt_node_ok (mt_node_ok (mt_leaf_ok (rfl)) (mt_leaf_ok (sp_push))) (mt_node_ok (mt_leaf_ok (rfl)) (mt_leaf_ok (trivial))))
theorem sr_129 {g : xe_G} : mt_all (spP srS) (mb_129 g).2.1 := (sr_129_0 (g := g))
theorem sr_130_0 {g : xe_G} : mt_all (spP srS) (mb_130_0 g) := mt_node_ok (mt_node_ok (mt_node_ok (mt_leaf_ok (sp_iload)) (mt_leaf_ok (sp_push))) (mt_node_ok (mt_leaf_ok (sp_if2)) (mt_node_ok (mt_leaf_ok (sp_iload)) (mt_leaf_ok (sp_push))))) (mt_node_ok (mt_node_ok (mt_leaf_ok (sp_if2)) (mt_leaf_ok (sp_push))) (mt_node_ok (mt_leaf_ok (sp_goto)) (mt_node_ok (mt_leaf_ok (sp_push)) (mt_leaf_ok (trivial)))))
theorem sr_130 {g : xe_G} : mt_all (spP srS) (mb_130 g).2.1 := (sr_130_0 (g := g))
theorem sr_132_0 {g : xe_G} : mt_all (spP srS) (mb_132_0 g) := mt_node_ok (mt_node_ok (mt_node_ok (mt_node_ok (mt_node_ok (mt_leaf_ok (sp_push)) (mt_leaf_ok (sp_isto))) (mt_node_ok (mt_leaf_ok (sp_iload)) (mt_leaf_ok (sp_iload)))) (mt_node_ok (mt_node_ok (mt_leaf_ok (sp_if2)) (mt_leaf_ok (sp_iload))) (mt_node_ok (mt_leaf_ok (sp_aload)) (mt_leaf_ok (sp_alen))))) (mt_node_ok (mt_node_ok (mt_node_ok (mt_leaf_ok (sp_if2)) (mt_leaf_ok (sp_aload))) (mt_node_ok (mt_leaf_ok (sp_iload)) (mt_leaf_ok (sp_ald)))) (mt_node_ok (mt_node_ok (mt_leaf_ok (sp_asto)) (mt_leaf_ok (sp_aload))) (mt_node_ok (mt_leaf_ok (sp_null)) (mt_leaf_ok (sp_aload)))))) (mt_node_ok (mt_node_ok (mt_node_ok (mt_node_ok (mt_leaf_ok (sp_aload)) (mt_leaf_ok (sp_get))) (mt_node_ok (mt_leaf_ok (sp_iload)) (mt_leaf_ok (rfl)))) (mt_node_ok (mt_node_ok (mt_leaf_ok (sp_if)) (mt_leaf_ok (sp_aload))) (mt_node_ok (mt_leaf_ok (sp_aload)) (mt_leaf_ok (sp_get))))) (mt_node_ok (mt_node_ok (mt_node_ok (mt_leaf_ok (sp_iload)) (mt_leaf_ok (rfl))) (mt_node_ok (mt_leaf_ok (sp_if)) (mt_leaf_ok (sp_iload)))) (mt_node_ok (mt_node_ok (mt_leaf_ok (trivial)) (mt_leaf_ok (sp_iinc))) (mt_node_ok (mt_leaf_ok (sp_goto)) (mt_node_ok (mt_leaf_ok (sp_push)) (mt_leaf_ok (trivial)))))))
theorem sr_132 {g : xe_G} : mt_all (spP srS) (mb_132 g).2.1 := (sr_132_0 (g := g))
theorem sr_133_0 {g : xe_G} : mt_all (spP srS) (mb_133_0 g) := mt_node_ok (mt_node_ok (mt_node_ok (mt_node_ok (mt_node_ok (mt_leaf_ok (sp_iload)) (mt_node_ok (mt_leaf_ok (sp_iload)) (mt_leaf_ok (sp_if2)))) (mt_node_ok (mt_leaf_ok (sp_push)) (mt_node_ok (mt_leaf_ok (trivial)) (mt_leaf_ok (sp_aload))))) (mt_node_ok (mt_node_ok (mt_leaf_ok (sp_iload)) (mt_node_ok (mt_leaf_ok (rfl)) (mt_leaf_ok (sp_push)))) (mt_node_ok (mt_leaf_ok (sp_if2)) (mt_node_ok (mt_leaf_ok (sp_aload)) (mt_leaf_ok (sp_iload)))))) (mt_node_ok (mt_node_ok (mt_node_ok (mt_leaf_ok (rfl)) (mt_node_ok (mt_leaf_ok (sp_push)) (mt_leaf_ok (sp_if2)))) (mt_node_ok (mt_leaf_ok (sp_aload)) (mt_node_ok (mt_leaf_ok (sp_get)) (mt_leaf_ok (sp_iload))))) (mt_node_ok (mt_node_ok (mt_leaf_ok (sp_ald)) (mt_node_ok (mt_leaf_ok (sp_aload)) (mt_leaf_ok (sp_get)))) (mt_node_ok (mt_leaf_ok (sp_iload)) (mt_node_ok (mt_leaf_ok (sp_ald)) (mt_leaf_ok (sp_if2))))))) (mt_node_ok (mt_node_ok (mt_node_ok (mt_node_ok (mt_leaf_ok (sp_push)) (mt_node_ok (mt_leaf_ok (trivial)) (mt_leaf_ok (sp_push)))) (mt_node_ok (mt_leaf_ok (sp_isto)) (mt_node_ok (mt_leaf_ok (sp_iload)) (mt_leaf_ok (sp_aload))))) (mt_node_ok (mt_node_ok (mt_leaf_ok (sp_get)) (mt_node_ok (mt_leaf_ok (sp_iload)) (mt_leaf_ok (sp_ald)))) (mt_node_ok (mt_leaf_ok (sp_if2)) (mt_node_ok (mt_leaf_ok (sp_aload)) (mt_leaf_ok (sp_get)))))) (mt_node_ok (mt_node_ok (mt_node_ok (mt_leaf_ok (sp_aload)) (mt_node_ok (mt_leaf_ok (sp_get)) (mt_leaf_ok (sp_iload)))) (mt_node_ok (mt_leaf_ok (sp_ald)) (mt_node_ok (mt_leaf_ok (sp_iload)) (mt_leaf_ok (sp_bin))))) (mt_node_ok (mt_node_ok (mt_leaf_ok (sp_ald)) (mt_node_ok (mt_leaf_ok (sp_aload)) (mt_leaf_ok (sp_get)))) (mt_node_ok (mt_leaf_ok (sp_aload)) (mt_node_ok (mt_leaf_ok (sp_get)) (mt_leaf_ok (sp_iload)))))))
theorem sr_133_1 {g : xe_G} : mt_all (spP srS) (mb_133_1 g) := mt_node_ok (mt_node_ok (mt_node_ok (mt_leaf_ok (sp_ald)) (mt_leaf_ok (sp_iload))) (mt_node_ok (mt_leaf_ok (sp_bin)) (mt_node_ok (mt_leaf_ok (sp_ald)) (mt_leaf_ok (sp_if2))))) (mt_node_ok (mt_node_ok (mt_leaf_ok (sp_push)) (mt_node_ok (mt_leaf_ok (trivial)) (mt_leaf_ok (sp_iinc)))) (mt_node_ok (mt_leaf_ok (sp_goto)) (mt_node_ok (mt_leaf_ok (sp_push)) (mt_leaf_ok (trivial)))))
theorem sr_133 {g : xe_G} : mt_all (spP srS) (mb_133 g).2.1 := mt_node_ok ((sr_133_0 (g := g))) ((sr_133_1 (g := g)))
theorem sr_134_0 {g : xe_G} : mt_all (spP srS) (mb_134_0 g) := mt_node_ok (mt_node_ok (mt_node_ok (mt_node_ok (mt_leaf_ok (sp_iload)) (mt_leaf_ok (sp_if))) (mt_node_ok (mt_leaf_ok (sp_iload)) (mt_node_ok (mt_leaf_ok (sp_aload)) (mt_leaf_ok (sp_get))))) (mt_node_ok (mt_node_ok (mt_leaf_ok (sp_alen)) (mt_leaf_ok (sp_if2))) (mt_node_ok (mt_leaf_ok (sp_aload)) (mt_node_ok (mt_leaf_ok (sp_get)) (mt_leaf_ok (sp_iload)))))) (mt_node_ok (mt_node_ok (mt_node_ok (mt_leaf_ok (sp_ald)) (mt_leaf_ok (sp_push))) (mt_node_ok (mt_leaf_ok (sp_if2)) (mt_node_ok (mt_leaf_ok (sp_push)) (mt_leaf_ok (sp_goto))))) (mt_node_ok (mt_node_ok (mt_leaf_ok (sp_aload)) (mt_leaf_ok (sp_get))) (mt_node_ok (mt_leaf_ok (sp_iload)) (mt_node_ok (mt_leaf_ok (sp_ald)) (mt_leaf_ok (trivial))))))
theorem sr_134 {g : xe_G} : mt_all (spP srS) (mb_134 g).2.1 := (sr_134_0 (g := g))
theorem sr_135_0 {g : xe_G} : mt_all (spP srS) (mb_135_0 g) := mt_node_ok (mt_node_ok (mt_node_ok (mt_node_ok (mt_leaf_ok (sp_iload)) (mt_leaf_ok (sp_if))) (mt_node_ok (mt_leaf_ok (sp_iload)) (mt_leaf_ok (sp_aload)))) (mt_node_ok (mt_node_ok (mt_leaf_ok (sp_get)) (mt_leaf_ok (sp_alen))) (mt_node_ok (mt_leaf_ok (sp_if2)) (mt_node_ok (mt_leaf_ok (sp_aload)) (mt_leaf_ok (sp_get)))))) (mt_node_ok (mt_node_ok (mt_node_ok (mt_leaf_ok (sp_iload)) (mt_leaf_ok (sp_iload))) (mt_node_ok (mt_leaf_ok (sp_ast)) (mt_leaf_ok (sp_aload)))) (mt_node_ok (mt_node_ok (mt_leaf_ok (sp_get)) (mt_leaf_ok (sp_iload))) (mt_node_ok (mt_leaf_ok (sp_iload)) (mt_node_ok (mt_leaf_ok (sp_ast)) (mt_leaf_ok (trivial))))))
theorem sr_135 {g : xe_G} : mt_all (spP srS) (mb_135 g).2.1 := (sr_135_0 (g := g))
theorem sr_136_0 {g : xe_G} : mt_all (spP srS) (mb_136_0 g) := mt_node_ok (mt_node_ok (mt_node_ok (mt_node_ok (mt_leaf_ok (sp_iload)) (mt_leaf_ok (sp_if))) (mt_node_ok (mt_leaf_ok (sp_iload)) (mt_leaf_ok (sp_aload)))) (mt_node_ok (mt_node_ok (mt_leaf_ok (sp_get)) (mt_leaf_ok (sp_alen))) (mt_node_ok (mt_leaf_ok (sp_if2)) (mt_node_ok (mt_leaf_ok (sp_aload)) (mt_leaf_ok (sp_get)))))) (mt_node_ok (mt_node_ok (mt_node_ok (mt_leaf_ok (sp_iload)) (mt_leaf_ok (sp_iload))) (mt_node_ok (mt_leaf_ok (sp_ast)) (mt_leaf_ok (sp_aload)))) (mt_node_ok (mt_node_ok (mt_leaf_ok (sp_get)) (mt_leaf_ok (sp_iload))) (mt_node_ok (mt_leaf_ok (sp_iload)) (mt_node_ok (mt_leaf_ok (sp_ast)) (mt_leaf_ok (trivial))))))
theorem sr_136 {g : xe_G} : mt_all (spP srS) (mb_136 g).2.1 := (sr_136_0 (g := g))
theorem sr_137_0 {g : xe_G} : mt_all (spP srS) (mb_137_0 g) := mt_node_ok (mt_node_ok (mt_node_ok (mt_node_ok (mt_node_ok (mt_leaf_ok (sp_iload)) (mt_leaf_ok (sp_iload))) (mt_node_ok (mt_leaf_ok (sp_if2)) (mt_leaf_ok (sp_push)))) (mt_node_ok (mt_node_ok (mt_leaf_ok (trivial)) (mt_leaf_ok (sp_aload))) (mt_node_ok (mt_leaf_ok (sp_get)) (mt_leaf_ok (sp_iload))))) (mt_node_ok (mt_node_ok (mt_node_ok (mt_leaf_ok (sp_ald)) (mt_leaf_ok (sp_push))) (mt_node_ok (mt_leaf_ok (sp_if2)) (mt_leaf_ok (sp_aload)))) (mt_node_ok (mt_node_ok (mt_leaf_ok (sp_iload)) (mt_leaf_ok (sp_push))) (mt_node_ok (mt_leaf_ok (sp_bin)) (mt_leaf_ok (sp_iload)))))) (mt_node_ok (mt_node_ok (mt_node_ok (mt_node_ok (mt_leaf_ok (rfl)) (mt_leaf_ok (trivial))) (mt_node_ok (mt_leaf_ok (sp_aload)) (mt_leaf_ok (sp_iload)))) (mt_node_ok (mt_node_ok (mt_leaf_ok (sp_iload)) (mt_leaf_ok (rfl))) (mt_node_ok (mt_leaf_ok (sp_iload)) (mt_leaf_ok (sp_if2))))) (mt_node_ok (mt_node_ok (mt_node_ok (mt_leaf_ok (sp_aload)) (mt_leaf_ok (sp_get))) (mt_node_ok (mt_leaf_ok (sp_iload)) (mt_leaf_ok (sp_ald)))) (mt_node_ok (mt_node_ok (mt_leaf_ok (rfl)) (mt_leaf_ok (sp_goto))) (mt_node_ok (mt_leaf_ok (sp_push)) (mt_leaf_ok (trivial))))))
theorem sr_137 {g : xe_G} : mt_all (spP srS) (mb_137 g).2.1 := (sr_137_0 (g := g))
theorem sr_138_0 {g : xe_G} : mt_all (spP srS) (mb_138_0 g) := mt_node_ok (mt_node_ok (mt_node_ok (mt_leaf_ok (sp_iload)) (mt_node_ok (mt_leaf_ok (sp_if)) (mt_leaf_ok (sp_iload)))) (mt_node_ok (mt_node_ok (mt_leaf_ok (sp_aload)) (mt_leaf_ok (sp_get))) (mt_node_ok (mt_leaf_ok (sp_alen)) (mt_leaf_ok (sp_if2))))) (mt_node_ok (mt_node_ok (mt_leaf_ok (sp_push)) (mt_node_ok (mt_leaf_ok (sp_goto)) (mt_leaf_ok (sp_aload)))) (mt_node_ok (mt_node_ok (mt_leaf_ok (sp_get)) (mt_leaf_ok (sp_iload))) (mt_node_ok (mt_leaf_ok (sp_ald)) (mt_leaf_ok (trivial)))))
theorem sr_138 {g : xe_G} : mt_all (spP srS) (mb_138 g).2.1 := (sr_138_0 (g := g))
theorem sr_139_0 {g : xe_G} : mt_all (spP srS) (mb_139_0 g) := mt_node_ok (mt_node_ok (mt_node_ok (mt_leaf_ok (sp_iload)) (mt_node_ok (mt_leaf_ok (sp_if)) (mt_leaf_ok (sp_iload)))) (mt_node_ok (mt_node_ok (mt_leaf_ok (sp_aload)) (mt_leaf_ok (sp_get))) (mt_node_ok (mt_leaf_ok (sp_alen)) (mt_leaf_ok (sp_if2))))) (mt_node_ok (mt_node_ok (mt_leaf_ok (sp_push)) (mt_node_ok (mt_leaf_ok (sp_goto)) (mt_leaf_ok (sp_aload)))) (mt_node_ok (mt_node_ok (mt_leaf_ok (sp_get)) (mt_leaf_ok (sp_iload))) (mt_node_ok (mt_leaf_ok (sp_ald)) (mt_leaf_ok (trivial)))))
theorem sr_139 {g : xe_G} : mt_all (spP srS) (mb_139 g).2.1 := (sr_139_0 (g := g))
theorem sr_140_0 {g : xe_G} : mt_all (spP srS) (mb_140_0 g) := mt_node_ok (mt_node_ok (mt_node_ok (mt_node_ok (mt_node_ok (mt_leaf_ok (sp_aload)) (mt_leaf_ok (sp_iload))) (mt_node_ok (mt_leaf_ok (rfl)) (mt_leaf_ok (sp_push)))) (mt_node_ok (mt_node_ok (mt_leaf_ok (sp_if2)) (mt_leaf_ok (sp_aload))) (mt_node_ok (mt_leaf_ok (sp_get)) (mt_node_ok (mt_leaf_ok (sp_iload)) (mt_leaf_ok (sp_ald)))))) (mt_node_ok (mt_node_ok (mt_node_ok (mt_leaf_ok (sp_aload)) (mt_leaf_ok (sp_slength))) (mt_node_ok (mt_leaf_ok (sp_if2)) (mt_node_ok (mt_leaf_ok (sp_push)) (mt_leaf_ok (trivial))))) (mt_node_ok (mt_node_ok (mt_leaf_ok (sp_push)) (mt_leaf_ok (sp_isto))) (mt_node_ok (mt_leaf_ok (sp_iload)) (mt_node_ok (mt_leaf_ok (sp_aload)) (mt_leaf_ok (sp_slength))))))) (mt_node_ok (mt_node_ok (mt_node_ok (mt_node_ok (mt_leaf_ok (sp_if2)) (mt_leaf_ok (sp_aload))) (mt_node_ok (mt_leaf_ok (sp_get)) (mt_node_ok (mt_leaf_ok (sp_aload)) (mt_leaf_ok (sp_get))))) (mt_node_ok (mt_node_ok (mt_leaf_ok (sp_iload)) (mt_leaf_ok (sp_ald))) (mt_node_ok (mt_leaf_ok (sp_iload)) (mt_node_ok (mt_leaf_ok (sp_bin)) (mt_leaf_ok (sp_ald)))))) (mt_node_ok (mt_node_ok (mt_node_ok (mt_leaf_ok (sp_aload)) (mt_leaf_ok (sp_iload))) (mt_node_ok (mt_leaf_ok (sp_scharAt)) (mt_node_ok (mt_leaf_ok (sp_if2)) (mt_leaf_ok (sp_push))))) (mt_node_ok (mt_node_ok (mt_leaf_ok (trivial)) (mt_leaf_ok (sp_iinc))) (mt_node_ok (mt_leaf_ok (sp_goto)) (mt_node_ok (mt_leaf_ok (sp_push)) (mt_leaf_ok (trivial)))))))
theorem sr_140 {g : xe_G} : mt_all (spP srS) (mb_140 g).2.1 := (sr_140_0 (g := g))
theorem sr_141_0 {g : xe_G} : mt_all (spP srS) (mb_141_0 g) := mt_node_ok (mt_node_ok (mt_node_ok (mt_leaf_ok (sp_aload)) (mt_node_ok (mt_leaf_ok (sp_iload)) (mt_leaf_ok (rfl)))) (mt_node_ok (mt_leaf_ok (sp_push)) (mt_node_ok (mt_leaf_ok (sp_if2)) (mt_leaf_ok (sp_aload))))) (mt_node_ok (mt_node_ok (mt_leaf_ok (sp_get)) (mt_node_ok (mt_leaf_ok (sp_iload)) (mt_leaf_ok (sp_ald)))) (mt_node_ok (mt_leaf_ok (sp_goto)) (mt_node_ok (mt_leaf_ok (sp_push)) (mt_leaf_ok (trivial)))))
theorem sr_141 {g : xe_G} : mt_all (spP srS) (mb_141 g).2.1 := (sr_141_0 (g := g))
theorem sr_142_0 {g : xe_G} : mt_all (spP srS) (mb_142_0 g) := mt_node_ok (mt_node_ok (mt_node_ok (mt_node_ok (mt_node_ok (mt_leaf_ok (sp_iload)) (mt_node_ok (mt_leaf_ok (sp_isto)) (mt_leaf_ok (sp_iload)))) (mt_node_ok (mt_leaf_ok (sp_iload)) (mt_node_ok (mt_leaf_ok (sp_if2)) (mt_leaf_ok (sp_aload))))) (mt_node_ok (mt_node_ok (mt_leaf_ok (sp_get)) (mt_node_ok (mt_leaf_ok (sp_iload)) (mt_leaf_ok (sp_ald)))) (mt_node_ok (mt_leaf_ok (sp_push)) (mt_node_ok (mt_leaf_ok (sp_if2)) (mt_leaf_ok (sp_iinc)))))) (mt_node_ok (mt_node_ok (mt_node_ok (mt_leaf_ok (sp_goto)) (mt_node_ok (mt_leaf_ok (sp_iload)) (mt_leaf_ok (sp_iload)))) (mt_node_ok (mt_leaf_ok (sp_if2)) (mt_node_ok (mt_leaf_ok (sp_iload)) (mt_leaf_ok (sp_iload))))) (mt_node_ok (mt_node_ok (mt_leaf_ok (sp_bin)) (mt_node_ok (mt_leaf_ok (sp_push)) (mt_leaf_ok (sp_if2)))) (mt_node_ok (mt_leaf_ok (sp_push)) (mt_node_ok (mt_leaf_ok (trivial)) (mt_leaf_ok (sp_aload))))))) (mt_node_ok (mt_node_ok (mt_node_ok (mt_node_ok (mt_leaf_ok (sp_get)) (mt_node_ok (mt_leaf_ok (sp_iload)) (mt_leaf_ok (sp_ald)))) (mt_node_ok (mt_leaf_ok (sp_sw)) (mt_node_ok (mt_leaf_ok (sp_iload)) (mt_leaf_ok (sp_push))))) (mt_node_ok (mt_node_ok (mt_leaf_ok (sp_bin)) (mt_node_ok (mt_leaf_ok (trivial)) (mt_leaf_ok (sp_aload)))) (mt_node_ok (mt_leaf_ok (sp_iload)) (mt_node_ok (mt_leaf_ok (sp_push)) (mt_leaf_ok (sp_bin)))))) (mt_node_ok (mt_node_ok (mt_node_ok (mt_leaf_ok (sp_iload)) (mt_node_ok (mt_leaf_ok (rfl)) (mt_leaf_ok (sp_isto)))) (mt_node_ok (mt_leaf_ok (sp_iload)) (mt_node_ok (mt_leaf_ok (sp_if)) (mt_leaf_ok (sp_iload))))) (mt_node_ok (mt_node_ok (mt_leaf_ok (sp_iload)) (mt_node_ok (mt_leaf_ok (sp_if2)) (mt_leaf_ok (sp_push)))) (mt_node_ok (mt_leaf_ok (sp_goto)) (mt_node_ok (mt_leaf_ok (sp_iload)) (mt_leaf_ok (sp_push)))))))
theorem sr_142_1 {g : xe_G} : mt_all (spP srS) (mb_142_1 g) := mt_node_ok (mt_node_ok (mt_leaf_ok (sp_bin)) (mt_leaf_ok (trivial))) (mt_node_ok (mt_leaf_ok (sp_push)) (mt_leaf_ok (trivial)))
theorem sr_142 {g : xe_G} : mt_all (spP srS) (mb_142 g).2.1 := mt_node_ok ((sr_142_0 (g := g))) ((sr_142_1 (g := g)))
theorem sr_143_0 {g : xe_G} : mt_all (spP srS) (mb_143_0 g) := mt_node_ok (mt_node_ok (mt_node_ok (mt_leaf_ok (sp_aload)) (mt_node_ok (mt_leaf_ok (sp_drop)) (mt_leaf_ok (sp_aload)))) (mt_node_ok (mt_node_ok (mt_leaf_ok (sp_aload)) (mt_leaf_ok (sp_get))) (mt_node_ok (mt_leaf_ok (sp_put)) (mt_leaf_ok (sp_aload))))) (mt_node_ok (mt_node_ok (mt_leaf_ok (sp_aload)) (mt_node_ok (mt_leaf_ok (sp_get)) (mt_leaf_ok (sp_put)))) (mt_node_ok (mt_node_ok (mt_leaf_ok (sp_aload)) (mt_leaf_ok (sp_aload))) (mt_node_ok (mt_leaf_ok (sp_put)) (mt_leaf_ok (trivial)))))
theorem sr_143 {g : xe_G} : mt_all (spP srS) (mb_143 g).2.1 := (sr_143_0 (g := g))
theorem sr_144_0 {g : xe_G} : mt_all (spP srS) (mb_144_0 g) := mt_node_ok (mt_node_ok (mt_node_ok (mt_node_ok (mt_node_ok (mt_leaf_ok (sp_push)) (mt_leaf_ok (sp_isto))) (mt_node_ok (mt_leaf_ok (sp_iload)) (mt_leaf_ok (sp_aload)))) (mt_node_ok (mt_node_ok (mt_leaf_ok (sp_get)) (mt_leaf_ok (sp_get))) (mt_node_ok (mt_leaf_ok (sp_if2)) (mt_node_ok (mt_leaf_ok (sp_aload)) (mt_leaf_ok (sp_get)))))) (mt_node_ok (mt_node_ok (mt_node_ok (mt_leaf_ok (sp_iload)) (mt_leaf_ok (rfl))) (mt_node_ok (mt_leaf_ok (sp_isto)) (mt_leaf_ok (sp_iload)))) (mt_node_ok (mt_node_ok (mt_leaf_ok (sp_push)) (mt_leaf_ok (sp_if2))) (mt_node_ok (mt_leaf_ok (sp_iload)) (mt_node_ok (mt_leaf_ok (sp_push)) (mt_leaf_ok (sp_if2))))))) (mt_node_ok (mt_node_ok (mt_node_ok (mt_node_ok (mt_leaf_ok (sp_aload)) (mt_leaf_ok (sp_get))) (mt_node_ok (mt_leaf_ok (sp_iload)) (mt_leaf_ok (rfl)))) (mt_node_ok (mt_node_ok (mt_leaf_ok (sp_iload)) (mt_leaf_ok (sp_if2))) (mt_node_ok (mt_leaf_ok (sp_aload)) (mt_node_ok (mt_leaf_ok (sp_get)) (mt_leaf_ok (sp_push)))))) (mt_node_ok (mt_node_ok (mt_node_ok (mt_leaf_ok (sp_aload)) (mt_leaf_ok (sp_get))) (mt_node_ok (mt_leaf_ok (sp_iload)) (mt_node_ok (mt_leaf_ok (rfl)) (mt_leaf_ok (rfl))))) (mt_node_ok (mt_node_ok (mt_leaf_ok (trivial)) (mt_leaf_ok (sp_iinc))) (mt_node_ok (mt_leaf_ok (sp_goto)) (mt_node_ok (mt_leaf_ok (sp_push)) (mt_leaf_ok (trivial)))))))
theorem sr_144 {g : xe_G} : mt_all (spP srS) (mb_144 g).2.1 := (sr_144_0 (g := g))
theorem sr_145_0 {g : xe_G} : mt_all (spP srS) (mb_145_0 g) := mt_node_ok (mt_node_ok (mt_node_ok (mt_node_ok (mt_node_ok (mt_leaf_ok (sp_aload)) (mt_node_ok (mt_leaf_ok (sp_get)) (mt_leaf_ok (sp_iload)))) (mt_node_ok (mt_leaf_ok (rfl)) (mt_node_ok (mt_leaf_ok (sp_sw)) (mt_leaf_ok (sp_aload))))) (mt_node_ok (mt_node_ok (mt_leaf_ok (sp_get)) (mt_node_ok (mt_leaf_ok (sp_aload)) (mt_leaf_ok (sp_get)))) (mt_node_ok (mt_leaf_ok (sp_iload)) (mt_node_ok (mt_leaf_ok (rfl)) (mt_leaf_ok (rfl)))))) (mt_node_ok (mt_node_ok (mt_node_ok (mt_leaf_ok (sp_if)) (mt_node_ok (mt_leaf_ok (sp_push)) (mt_leaf_ok (sp_goto)))) (mt_node_ok (mt_leaf_ok (sp_push)) (mt_node_ok (mt_leaf_ok (trivial)) (mt_leaf_ok (sp_aload))))) (mt_node_ok (mt_node_ok (mt_leaf_ok (sp_iload)) (mt_node_ok (mt_leaf_ok (rfl)) (mt_leaf_ok (sp_if)))) (mt_node_ok (mt_leaf_ok (sp_push)) (mt_node_ok (mt_leaf_ok (sp_goto)) (mt_leaf_ok (sp_push))))))) (mt_node_ok (mt_node_ok (mt_node_ok (mt_node_ok (mt_leaf_ok (trivial)) (mt_node_ok (mt_leaf_ok (sp_aload)) (mt_leaf_ok (sp_get)))) (mt_node_ok (mt_leaf_ok (sp_aload)) (mt_node_ok (mt_leaf_ok (sp_get)) (mt_leaf_ok (sp_iload))))) (mt_node_ok (mt_node_ok (mt_leaf_ok (rfl)) (mt_node_ok (mt_leaf_ok (rfl)) (mt_leaf_ok (sp_if)))) (mt_node_ok (mt_leaf_ok (sp_push)) (mt_node_ok (mt_leaf_ok (sp_goto)) (mt_leaf_ok (sp_push)))))) (mt_node_ok (mt_node_ok (mt_node_ok (mt_leaf_ok (trivial)) (mt_node_ok (mt_leaf_ok (sp_aload)) (mt_leaf_ok (sp_iload)))) (mt_node_ok (mt_leaf_ok (rfl)) (mt_node_ok (mt_leaf_ok (sp_if)) (mt_leaf_ok (sp_push))))) (mt_node_ok (mt_node_ok (mt_leaf_ok (sp_goto)) (mt_node_ok (mt_leaf_ok (sp_push)) (mt_leaf_ok (trivial)))) (mt_node_ok (mt_leaf_ok (sp_aload)) (mt_node_ok (mt_leaf_ok (sp_aload)) (mt_leaf_ok (sp_get)))))))
theorem sr_145_1 {g : xe_G} : mt_all (spP srS) (mb_145_1 g) := mt_node_ok (mt_node_ok (mt_node_ok (mt_node_ok (mt_node_ok (mt_leaf_ok (sp_iload)) (mt_node_ok (mt_leaf_ok (rfl)) (mt_leaf_ok (sp_aload)))) (mt_node_ok (mt_leaf_ok (sp_get)) (mt_node_ok (mt_leaf_ok (sp_iload)) (mt_leaf_ok (rfl))))) (mt_node_ok (mt_node_ok (mt_leaf_ok (rfl)) (mt_node_ok (mt_leaf_ok (sp_if)) (mt_leaf_ok (sp_push)))) (mt_node_ok (mt_leaf_ok (sp_goto)) (mt_node_ok (mt_leaf_ok (sp_push)) (mt_leaf_ok (trivial)))))) (mt_node_ok (mt_node_ok (mt_node_ok (mt_leaf_ok (sp_aload)) (mt_node_ok (mt_leaf_ok (sp_get)) (mt_leaf_ok (sp_aload)))) (mt_node_ok (mt_leaf_ok (sp_get)) (mt_node_ok (mt_leaf_ok (sp_iload)) (mt_leaf_ok (rfl))))) (mt_node_ok (mt_node_ok (mt_leaf_ok (rfl)) (mt_node_ok (mt_leaf_ok (sp_if)) (mt_leaf_ok (sp_push)))) (mt_node_ok (mt_leaf_ok (sp_goto)) (mt_node_ok (mt_leaf_ok (sp_push)) (mt_leaf_ok (trivial))))))) (mt_node_ok (mt_node_ok (mt_node_ok (mt_node_ok (mt_leaf_ok (sp_aload)) (mt_node_ok (mt_leaf_ok (sp_get)) (mt_leaf_ok (sp_aload)))) (mt_node_ok (mt_leaf_ok (sp_get)) (mt_node_ok (mt_leaf_ok (sp_iload)) (mt_leaf_ok (rfl))))) (mt_node_ok (mt_node_ok (mt_leaf_ok (rfl)) (mt_node_ok (mt_leaf_ok (sp_if)) (mt_leaf_ok (sp_aload)))) (mt_node_ok (mt_leaf_ok (sp_get)) (mt_node_ok (mt_leaf_ok (sp_aload)) (mt_leaf_ok (sp_get)))))) (mt_node_ok (mt_node_ok (mt_node_ok (mt_leaf_ok (sp_iload)) (mt_node_ok (mt_leaf_ok (rfl)) (mt_leaf_ok (rfl)))) (mt_node_ok (mt_leaf_ok (sp_if)) (mt_node_ok (mt_leaf_ok (sp_push)) (mt_leaf_ok (sp_goto))))) (mt_node_ok (mt_node_ok (mt_leaf_ok (sp_push)) (mt_node_ok (mt_leaf_ok (trivial)) (mt_leaf_ok (sp_aload)))) (mt_node_ok (mt_leaf_ok (sp_get)) (mt_node_ok (mt_leaf_ok (sp_aload)) (mt_leaf_ok (sp_get)))))))
theorem sr_145_2 {g : xe_G} : mt_all (spP srS) (mb_145_2 g) := mt_node_ok (mt_node_ok (mt_node_ok (mt_node_ok (mt_leaf_ok (sp_iload)) (mt_leaf_ok (rfl))) (mt_node_ok (mt_leaf_ok (rfl)) (mt_leaf_ok (sp_if)))) (mt_node_ok (mt_node_ok (mt_leaf_ok (sp_aload)) (mt_leaf_ok (sp_get))) (mt_node_ok (mt_leaf_ok (sp_aload)) (mt_node_ok (mt_leaf_ok (sp_get)) (mt_leaf_ok (sp_iload)))))) (mt_node_ok (mt_node_ok (mt_node_ok (mt_leaf_ok (rfl)) (mt_leaf_ok (rfl))) (mt_node_ok (mt_leaf_ok (sp_if)) (mt_leaf_ok (sp_push)))) (mt_node_ok (mt_node_ok (mt_leaf_ok (sp_goto)) (mt_leaf_ok (sp_push))) (mt_node_ok (mt_leaf_ok (trivial)) (mt_node_ok (mt_leaf_ok (sp_push)) (mt_leaf_ok (trivial))))))
theorem sr_145 {g : xe_G} : mt_all (spP srS) (mb_145 g).2.1 := mt_node_ok ((sr_145_0 (g := g))) (mt_node_ok ((sr_145_1 (g := g))) ((sr_145_2 (g := g))))
theorem sr_146_0 {g : xe_G} : mt_all (spP srS) (mb_146_0 g) := mt_node_ok (mt_node_ok (mt_node_ok (mt_node_ok (mt_node_ok (mt_leaf_ok (sp_push)) (mt_leaf_ok (sp_isto))) (mt_node_ok (mt_leaf_ok (sp_iload)) (mt_leaf_ok (sp_aload)))) (mt_node_ok (mt_node_ok (mt_leaf_ok (sp_get)) (mt_leaf_ok (sp_get))) (mt_node_ok (mt_leaf_ok (sp_if2)) (mt_leaf_ok (sp_aload))))) (mt_node_ok (mt_node_ok (mt_node_ok (mt_leaf_ok (sp_iload)) (mt_leaf_ok (rfl))) (mt_node_ok (mt_leaf_ok (sp_if)) (mt_leaf_ok (sp_aload)))) (mt_node_ok (mt_node_ok (mt_leaf_ok (sp_iload)) (mt_leaf_ok (rfl))) (mt_node_ok (mt_leaf_ok (sp_goto)) (mt_leaf_ok (sp_push)))))) (mt_node_ok (mt_node_ok (mt_node_ok (mt_node_ok (mt_leaf_ok (sp_isto)) (mt_leaf_ok (sp_iload))) (mt_node_ok (mt_leaf_ok (sp_if)) (mt_leaf_ok (sp_aload)))) (mt_node_ok (mt_node_ok (mt_leaf_ok (sp_get)) (mt_leaf_ok (sp_iload))) (mt_node_ok (mt_leaf_ok (sp_aload)) (mt_leaf_ok (sp_get))))) (mt_node_ok (mt_node_ok (mt_node_ok (mt_leaf_ok (sp_iload)) (mt_leaf_ok (rfl))) (mt_node_ok (mt_leaf_ok (rfl)) (mt_leaf_ok (trivial)))) (mt_node_ok (mt_node_ok (mt_leaf_ok (sp_iinc)) (mt_leaf_ok (sp_goto))) (mt_node_ok (mt_leaf_ok (sp_push)) (mt_leaf_ok (trivial))))))
theorem sr_146 {g : xe_G} : mt_all (spP srS) (mb_146 g).2.1 := (sr_146_0 (g := g))
theorem sr_147_0 {g : xe_G} : mt_all (spP srS) (mb_147_0 g) := mt_node_ok (mt_node_ok (mt_node_ok (mt_node_ok (mt_node_ok (mt_leaf_ok (sp_aload)) (mt_node_ok (mt_leaf_ok (sp_get)) (mt_leaf_ok (sp_iload)))) (mt_node_ok (mt_leaf_ok (rfl)) (mt_node_ok (mt_leaf_ok (sp_isto)) (mt_leaf_ok (sp_iload))))) (mt_node_ok (mt_node_ok (mt_leaf_ok (sp_sw)) (mt_node_ok (mt_leaf_ok (sp_iload)) (mt_leaf_ok (sp_push)))) (mt_node_ok (mt_leaf_ok (sp_if2)) (mt_node_ok (mt_leaf_ok (sp_push)) (mt_leaf_ok (sp_goto)))))) (mt_node_ok (mt_node_ok (mt_node_ok (mt_leaf_ok (sp_push)) (mt_node_ok (mt_leaf_ok (trivial)) (mt_leaf_ok (sp_iload)))) (mt_node_ok (mt_leaf_ok (sp_push)) (mt_node_ok (mt_leaf_ok (sp_if2)) (mt_leaf_ok (sp_aload))))) (mt_node_ok (mt_node_ok (mt_leaf_ok (sp_get)) (mt_node_ok (mt_leaf_ok (sp_iload)) (mt_leaf_ok (rfl)))) (mt_node_ok (mt_leaf_ok (sp_if)) (mt_node_ok (mt_leaf_ok (sp_push)) (mt_leaf_ok (sp_goto))))))) (mt_node_ok (mt_node_ok (mt_node_ok (mt_node_ok (mt_leaf_ok (sp_push)) (mt_node_ok (mt_leaf_ok (trivial)) (mt_leaf_ok (sp_iload)))) (mt_node_ok (mt_leaf_ok (sp_push)) (mt_node_ok (mt_leaf_ok (sp_if2)) (mt_leaf_ok (sp_iload))))) (mt_node_ok (mt_node_ok (mt_leaf_ok (sp_push)) (mt_node_ok (mt_leaf_ok (sp_if2)) (mt_leaf_ok (sp_aload)))) (mt_node_ok (mt_leaf_ok (sp_get)) (mt_node_ok (mt_leaf_ok (sp_push)) (mt_leaf_ok (sp_if2)))))) (mt_node_ok (mt_node_ok (mt_node_ok (mt_leaf_ok (sp_aload)) (mt_node_ok (mt_leaf_ok (sp_get)) (mt_leaf_ok (sp_iload)))) (mt_node_ok (mt_leaf_ok (rfl)) (mt_node_ok (mt_leaf_ok (sp_if)) (mt_leaf_ok (sp_push))))) (mt_node_ok (mt_node_ok (mt_leaf_ok (sp_goto)) (mt_node_ok (mt_leaf_ok (sp_push)) (mt_leaf_ok (trivial)))) (mt_node_ok (mt_leaf_ok (sp_iload)) (mt_node_ok (mt_leaf_ok (sp_push)) (mt_leaf_ok (sp_if2)))))))
theorem sr_147_1 {g : xe_G} : mt_all (spP srS) (mb_147_1 g) := mt_node_ok (mt_node_ok (mt_node_ok (mt_node_ok (mt_leaf_ok (sp_aload)) (mt_leaf_ok (sp_get))) (mt_node_ok (mt_leaf_ok (sp_iload)) (mt_node_ok (mt_leaf_ok (rfl)) (mt_leaf_ok (sp_if))))) (mt_node_ok (mt_node_ok (mt_leaf_ok (sp_push)) (mt_node_ok (mt_leaf_ok (sp_goto)) (mt_leaf_ok (sp_push)))) (mt_node_ok (mt_leaf_ok (trivial)) (mt_node_ok (mt_leaf_ok (sp_iload)) (mt_leaf_ok (sp_push)))))) (mt_node_ok (mt_node_ok (mt_node_ok (mt_leaf_ok (sp_if2)) (mt_node_ok (mt_leaf_ok (sp_aload)) (mt_leaf_ok (sp_get)))) (mt_node_ok (mt_leaf_ok (sp_iload)) (mt_node_ok (mt_leaf_ok (rfl)) (mt_leaf_ok (sp_if))))) (mt_node_ok (mt_node_ok (mt_leaf_ok (sp_push)) (mt_node_ok (mt_leaf_ok (sp_goto)) (mt_leaf_ok (sp_push)))) (mt_node_ok (mt_leaf_ok (trivial)) (mt_node_ok (mt_leaf_ok (sp_push)) (mt_leaf_ok (trivial))))))
theorem sr_147 {g : xe_G} : mt_all (spP srS) (mb_147 g).2.1 := mt_node_ok ((sr_147_0 (g := g))) ((sr_147_1 (g := g)))
theorem sr_148_0 {g : xe_G} : mt_all (spP srS) (mb_148_0 g) := mt_node_ok (mt_node_ok (mt_node_ok (mt_node_ok (mt_leaf_ok (sp_aload)) (mt_leaf_ok (sp_get))) (mt_node_ok (mt_leaf_ok (sp_iload)) (mt_leaf_ok (rfl)))) (mt_node_ok (mt_node_ok (mt_leaf_ok (sp_isto)) (mt_leaf_ok (sp_iload))) (mt_node_ok (mt_leaf_ok (sp_push)) (mt_node_ok (mt_leaf_ok (sp_if2)) (mt_leaf_ok (sp_iload)))))) (mt_node_ok (mt_node_ok (mt_node_ok (mt_leaf_ok (sp_push)) (mt_leaf_ok (sp_if2))) (mt_node_ok (mt_leaf_ok (sp_iload)) (mt_leaf_ok (sp_push)))) (mt_node_ok (mt_node_ok (mt_leaf_ok (sp_if2)) (mt_leaf_ok (sp_push))) (mt_node_ok (mt_leaf_ok (sp_goto)) (mt_node_ok (mt_leaf_ok (sp_push)) (mt_leaf_ok (trivial))))))
theorem sr_148 {g : xe_G} : mt_all (spP srS) (mb_148 g).2.1 := (sr_148_0 (g := g))
theorem sr_149_0 {g : xe_G} : mt_all (spP srS) (mb_149_0 g) := mt_node_ok (mt_node_ok (mt_node_ok (mt_node_ok (mt_node_ok (mt_leaf_ok (sp_aload)) (mt_leaf_ok (sp_get))) (mt_node_ok (mt_leaf_ok (sp_iload)) (mt_node_ok (mt_leaf_ok (rfl)) (mt_leaf_ok (sp_isto))))) (mt_node_ok (mt_node_ok (mt_leaf_ok (sp_aload)) (mt_leaf_ok (sp_get))) (mt_node_ok (mt_leaf_ok (sp_iload)) (mt_node_ok (mt_leaf_ok (rfl)) (mt_leaf_ok (sp_if)))))) (mt_node_ok (mt_node_ok (mt_node_ok (mt_leaf_ok (sp_push)) (mt_leaf_ok (trivial))) (mt_node_ok (mt_leaf_ok (sp_aload)) (mt_node_ok (mt_leaf_ok (sp_get)) (mt_leaf_ok (sp_aload))))) (mt_node_ok (mt_node_ok (mt_leaf_ok (sp_get)) (mt_node_ok (mt_leaf_ok (sp_iload)) (mt_leaf_ok (rfl)))) (mt_node_ok (mt_leaf_ok (rfl)) (mt_node_ok (mt_leaf_ok (sp_if)) (mt_leaf_ok (sp_push))))))) (mt_node_ok (mt_node_ok (mt_node_ok (mt_node_ok (mt_leaf_ok (trivial)) (mt_leaf_ok (sp_aload))) (mt_node_ok (mt_leaf_ok (sp_get)) (mt_node_ok (mt_leaf_ok (sp_iload)) (mt_leaf_ok (rfl))))) (mt_node_ok (mt_node_ok (mt_leaf_ok (sp_push)) (mt_leaf_ok (sp_if2))) (mt_node_ok (mt_leaf_ok (sp_aload)) (mt_node_ok (mt_leaf_ok (sp_get)) (mt_leaf_ok (sp_iload)))))) (mt_node_ok (mt_node_ok (mt_node_ok (mt_leaf_ok (rfl)) (mt_leaf_ok (sp_if))) (mt_node_ok (mt_leaf_ok (sp_aload)) (mt_node_ok (mt_leaf_ok (sp_get)) (mt_leaf_ok (sp_iload))))) (mt_node_ok (mt_node_ok (mt_leaf_ok (rfl)) (mt_node_ok (mt_leaf_ok (sp_if)) (mt_leaf_ok (sp_push)))) (mt_node_ok (mt_leaf_ok (sp_goto)) (mt_node_ok (mt_leaf_ok (sp_push)) (mt_leaf_ok (trivial)))))))
theorem sr_149 {g : xe_G} : mt_all (spP srS) (mb_149 g).2.1 := (sr_149_0 (g := g))
theorem sr_150_0 {g : xe_G} : mt_all (spP srS) (mb_150_0 g) := mt_node_ok (mt_node_ok (mt_node_ok (mt_node_ok (mt_leaf_ok (sp_aload)) (mt_node_ok (mt_leaf_ok (sp_get)) (mt_leaf_ok (sp_iload)))) (mt_node_ok (mt_leaf_ok (rfl)) (mt_node_ok (mt_leaf_ok (sp_isto)) (mt_leaf_ok (sp_aload))))) (mt_node_ok (mt_node_ok (mt_leaf_ok (sp_get)) (mt_node_ok (mt_leaf_ok (sp_aload)) (mt_leaf_ok (sp_get)))) (mt_node_ok (mt_node_ok (mt_leaf_ok (sp_iload)) (mt_leaf_ok (rfl))) (mt_node_ok (mt_leaf_ok (rfl)) (mt_leaf_ok (sp_if)))))) (mt_node_ok (mt_node_ok (mt_node_ok (mt_leaf_ok (sp_aload)) (mt_node_ok (mt_leaf_ok (sp_get)) (mt_leaf_ok (sp_iload)))) (mt_node_ok (mt_node_ok (mt_leaf_ok (rfl)) (mt_leaf_ok (sp_if))) (mt_node_ok (mt_leaf_ok (sp_aload)) (mt_leaf_ok (sp_get))))) (mt_node_ok (mt_node_ok (mt_leaf_ok (sp_iload)) (mt_node_ok (mt_leaf_ok (rfl)) (mt_leaf_ok (sp_if)))) (mt_node_ok (mt_node_ok (mt_leaf_ok (sp_push)) (mt_leaf_ok (sp_goto))) (mt_node_ok (mt_leaf_ok (sp_push)) (mt_leaf_ok (trivial))))))
theorem sr_150 {g : xe_G} : mt_all (spP srS) (mb_150 g).2.1 := (sr_150_0 (g := g))
theorem sr_151_0 {g : xe_G} : mt_all (spP srS) (mb_151_0 g) := mt_node_ok (mt_node_ok (mt_node_ok (mt_node_ok (mt_node_ok (mt_leaf_ok (sp_aload)) (mt_node_ok (mt_leaf_ok (sp_get)) (mt_leaf_ok (sp_iload)))) (mt_node_ok (mt_leaf_ok (rfl)) (mt_node_ok (mt_leaf_ok (sp_sw)) (mt_leaf_ok (sp_aload))))) (mt_node_ok (mt_node_ok (mt_leaf_ok (sp_get)) (mt_node_ok (mt_leaf_ok (sp_aload)) (mt_leaf_ok (sp_get)))) (mt_node_ok (mt_leaf_ok (sp_iload)) (mt_node_ok (mt_leaf_ok (rfl)) (mt_leaf_ok (rfl)))))) (mt_node_ok (mt_node_ok (mt_node_ok (mt_leaf_ok (sp_push)) (mt_node_ok (mt_leaf_ok (sp_if2)) (mt_leaf_ok (sp_push)))) (mt_node_ok (mt_leaf_ok (sp_goto)) (mt_node_ok (mt_leaf_ok (sp_push)) (mt_leaf_ok (trivial))))) (mt_node_ok (mt_node_ok (mt_leaf_ok (sp_aload)) (mt_node_ok (mt_leaf_ok (sp_iload)) (mt_leaf_ok (rfl)))) (mt_node_ok (mt_leaf_ok (trivial)) (mt_node_ok (mt_leaf_ok (sp_aload)) (mt_leaf_ok (sp_iload))))))) (mt_node_ok (mt_node_ok (mt_node_ok (mt_node_ok (mt_leaf_ok (rfl)) (mt_node_ok (mt_leaf_ok (trivial)) (mt_leaf_ok (sp_aload)))) (mt_node_ok (mt_leaf_ok (sp_get)) (mt_node_ok (mt_leaf_ok (sp_iload)) (mt_leaf_ok (rfl))))) (mt_node_ok (mt_node_ok (mt_leaf_ok (sp_isto)) (mt_node_ok (mt_leaf_ok (sp_aload)) (mt_leaf_ok (sp_iload)))) (mt_node_ok (mt_leaf_ok (rfl)) (mt_node_ok (mt_leaf_ok (sp_if)) (mt_leaf_ok (sp_aload)))))) (mt_node_ok (mt_node_ok (mt_node_ok (mt_leaf_ok (sp_iload)) (mt_node_ok (mt_leaf_ok (rfl)) (mt_leaf_ok (sp_goto)))) (mt_node_ok (mt_leaf_ok (sp_aload)) (mt_node_ok (mt_leaf_ok (sp_get)) (mt_leaf_ok (sp_iload))))) (mt_node_ok (mt_node_ok (mt_leaf_ok (rfl)) (mt_node_ok (mt_leaf_ok (sp_if)) (mt_leaf_ok (sp_push)))) (mt_node_ok (mt_leaf_ok (sp_goto)) (mt_node_ok (mt_leaf_ok (sp_push)) (mt_leaf_ok (trivial)))))))
theorem sr_151_1 {g : xe_G} : mt_all (spP srS) (mb_151_1 g) := mt_node_ok (mt_node_ok (mt_node_ok (mt_leaf_ok (sp_aload)) (mt_leaf_ok (sp_aload))) (mt_node_ok (mt_leaf_ok (sp_get)) (mt_leaf_ok (sp_iload)))) (mt_node_ok (mt_node_ok (mt_leaf_ok (rfl)) (mt_leaf_ok (rfl))) (mt_node_ok (mt_leaf_ok (trivial)) (mt_node_ok (mt_leaf_ok (sp_push)) (mt_leaf_ok (trivial)))))
theorem sr_151 {g : xe_G} : mt_all (spP srS) (mb_151 g).2.1 := mt_node_ok ((sr_151_0 (g := g))) ((sr_151_1 (g := g)))
theorem sr_152_0 {g : xe_G} : mt_all (spP srS) (mb_152_0 g) := mt_node_ok (mt_node_ok (mt_node_ok (mt_node_ok (mt_leaf_ok (sp_aload)) (mt_node_ok (mt_leaf_ok (sp_get)) (mt_leaf_ok (sp_iload)))) (mt_node_ok (mt_node_ok (mt_leaf_ok (rfl)) (mt_leaf_ok (sp_isto))) (mt_node_ok (mt_leaf_ok (sp_aload)) (mt_leaf_ok (sp_get))))) (mt_node_ok (mt_node_ok (mt_node_ok (mt_leaf_ok (sp_iload)) (mt_leaf_ok (rfl))) (mt_node_ok (mt_leaf_ok (sp_push)) (mt_leaf_ok (sp_if2)))) (mt_node_ok (mt_node_ok (mt_leaf_ok (sp_aload)) (mt_leaf_ok (sp_get))) (mt_node_ok (mt_leaf_ok (sp_aload)) (mt_leaf_ok (sp_get)))))) (mt_node_ok (mt_node_ok (mt_node_ok (mt_node_ok (mt_leaf_ok (sp_iload)) (mt_leaf_ok (rfl))) (mt_node_ok (mt_leaf_ok (rfl)) (mt_leaf_ok (sp_push)))) (mt_node_ok (mt_node_ok (mt_leaf_ok (sp_if2)) (mt_leaf_ok (sp_aload))) (mt_node_ok (mt_leaf_ok (sp_aload)) (mt_leaf_ok (sp_get))))) (mt_node_ok (mt_node_ok (mt_node_ok (mt_leaf_ok (sp_iload)) (mt_leaf_ok (rfl))) (mt_node_ok (mt_leaf_ok (rfl)) (mt_leaf_ok (sp_if)))) (mt_node_ok (mt_node_ok (mt_leaf_ok (sp_push)) (mt_leaf_ok (sp_goto))) (mt_node_ok (mt_leaf_ok (sp_push)) (mt_leaf_ok (trivial))))))
theorem sr_152 {g : xe_G} : mt_all (spP srS) (mb_152 g).2.1 := (sr_152_0 (g := g))
theorem sr_153_0 {g : xe_G} : mt_all (spP srS) (mb_153_0 g) := mt_node_ok (mt_node_ok (mt_node_ok (mt_node_ok (mt_leaf_ok (sp_aload)) (mt_node_ok (mt_leaf_ok (sp_get)) (mt_leaf_ok (sp_iload)))) (mt_node_ok (mt_node_ok (mt_leaf_ok (rfl)) (mt_leaf_ok (sp_push))) (mt_node_ok (mt_leaf_ok (sp_if2)) (mt_leaf_ok (sp_aload))))) (mt_node_ok (mt_node_ok (mt_leaf_ok (sp_get)) (mt_node_ok (mt_leaf_ok (sp_aload)) (mt_leaf_ok (sp_get)))) (mt_node_ok (mt_node_ok (mt_leaf_ok (sp_iload)) (mt_leaf_ok (rfl))) (mt_node_ok (mt_leaf_ok (rfl)) (mt_leaf_ok (sp_push)))))) (mt_node_ok (mt_node_ok (mt_node_ok (mt_leaf_ok (sp_if2)) (mt_node_ok (mt_leaf_ok (sp_aload)) (mt_leaf_ok (sp_get)))) (mt_node_ok (mt_node_ok (mt_leaf_ok (sp_aload)) (mt_leaf_ok (sp_get))) (mt_node_ok (mt_leaf_ok (sp_iload)) (mt_leaf_ok (rfl))))) (mt_node_ok (mt_node_ok (mt_leaf_ok (rfl)) (mt_node_ok (mt_leaf_ok (sp_push)) (mt_leaf_ok (sp_if2)))) (mt_node_ok (mt_node_ok (mt_leaf_ok (sp_push)) (mt_leaf_ok (sp_goto))) (mt_node_ok (mt_leaf_ok (sp_push)) (mt_leaf_ok (trivial))))))
theorem sr_153 {g : xe_G} : mt_all (spP srS) (mb_153 g).2.1 := (sr_153_0 (g := g))
theorem sr_154_0 {g : xe_G} : mt_all (spP srS) (mb_154_0 g) := mt_node_ok (mt_node_ok (mt_node_ok (mt_leaf_ok (sp_aload)) (mt_node_ok (mt_leaf_ok (sp_drop)) (mt_leaf_ok (sp_aload)))) (mt_node_ok (mt_leaf_ok (sp_aload)) (mt_node_ok (mt_leaf_ok (sp_put)) (mt_leaf_ok (sp_aload))))) (mt_node_ok (mt_node_ok (mt_leaf_ok (sp_aload)) (mt_node_ok (mt_leaf_ok (sp_put)) (mt_leaf_ok (sp_aload)))) (mt_node_ok (mt_node_ok (mt_leaf_ok (sp_aload)) (mt_leaf_ok (sp_get))) (mt_node_ok (mt_leaf_ok (sp_put)) (mt_leaf_ok (trivial)))))
theorem sr_154 {g : xe_G} : mt_all (spP srS) (mb_154 g).2.1 := (sr_154_0 (g := g))
theorem sr_155_0 {g : xe_G} : mt_all (spP srS) (mb_155_0 g) := mt_node_ok (mt_node_ok (mt_node_ok (mt_node_ok (mt_node_ok (mt_leaf_ok (sp_aload)) (mt_node_ok (mt_leaf_ok (sp_get)) (mt_leaf_ok (sp_aload)))) (mt_node_ok (mt_leaf_ok (sp_get)) (mt_node_ok (mt_leaf_ok (rfl)) (mt_leaf_ok (sp_isto))))) (mt_node_ok (mt_node_ok (mt_leaf_ok (sp_iload)) (mt_node_ok (mt_leaf_ok (sp_push)) (mt_leaf_ok (sp_if2)))) (mt_node_ok (mt_leaf_ok (sp_iload)) (mt_node_ok (mt_leaf_ok (trivial)) (mt_leaf_ok (sp_iload)))))) (mt_node_ok (mt_node_ok (mt_node_ok (mt_leaf_ok (sp_push)) (mt_node_ok (mt_leaf_ok (sp_if2)) (mt_leaf_ok (sp_iload)))) (mt_node_ok (mt_leaf_ok (sp_push)) (mt_node_ok (mt_leaf_ok (sp_bin)) (mt_leaf_ok (sp_push))))) (mt_node_ok (mt_node_ok (mt_leaf_ok (sp_bin)) (mt_node_ok (mt_leaf_ok (sp_aload)) (mt_leaf_ok (sp_get)))) (mt_node_ok (mt_leaf_ok (sp_aload)) (mt_node_ok (mt_leaf_ok (sp_get)) (mt_leaf_ok (sp_push))))))) (mt_node_ok (mt_node_ok (mt_node_ok (mt_node_ok (mt_leaf_ok (sp_bin)) (mt_node_ok (mt_leaf_ok (rfl)) (mt_leaf_ok (sp_push)))) (mt_node_ok (mt_leaf_ok (sp_bin)) (mt_node_ok (mt_leaf_ok (sp_bin)) (mt_leaf_ok (trivial))))) (mt_node_ok (mt_node_ok (mt_leaf_ok (sp_iload)) (mt_node_ok (mt_leaf_ok (sp_push)) (mt_leaf_ok (sp_bin)))) (mt_node_ok (mt_leaf_ok (sp_push)) (mt_node_ok (mt_leaf_ok (sp_bin)) (mt_leaf_ok (sp_aload)))))) (mt_node_ok (mt_node_ok (mt_node_ok (mt_leaf_ok (sp_get)) (mt_node_ok (mt_leaf_ok (sp_aload)) (mt_leaf_ok (sp_get)))) (mt_node_ok (mt_leaf_ok (sp_push)) (mt_node_ok (mt_leaf_ok (sp_bin)) (mt_leaf_ok (rfl))))) (mt_node_ok (mt_node_ok (mt_leaf_ok (sp_push)) (mt_node_ok (mt_leaf_ok (sp_bin)) (mt_leaf_ok (sp_push)))) (mt_node_ok (mt_leaf_ok (sp_bin)) (mt_node_ok (mt_leaf_ok (sp_bin)) (mt_leaf_ok (sp_aload)))))))
theorem sr_155_1 {g : xe_G} : mt_all (spP srS) (mb_155_1 g) := mt_node_ok (mt_node_ok (mt_node_ok (mt_leaf_ok (sp_get)) (mt_leaf_ok (sp_aload))) (mt_node_ok (mt_leaf_ok (sp_get)) (mt_node_ok (mt_leaf_ok (sp_push)) (mt_leaf_ok (sp_bin))))) (mt_node_ok (mt_node_ok (mt_leaf_ok (rfl)) (mt_leaf_ok (sp_push))) (mt_node_ok (mt_leaf_ok (sp_bin)) (mt_node_ok (mt_leaf_ok (sp_bin)) (mt_leaf_ok (trivial)))))
theorem sr_155 {g : xe_G} : mt_all (spP srS) (mb_155 g).2.1 := mt_node_ok ((sr_155_0 (g := g))) ((sr_155_1 (g := g)))
theorem sr_156_0 {g : xe_G} : mt_all (spP srS) (mb_156_0 g) := mt_node_ok (mt_node_ok (mt_node_ok (mt_node_ok (mt_node_ok (mt_leaf_ok (sp_aload)) (mt_node_ok (mt_leaf_ok (sp_get)) (mt_leaf_ok (sp_aload)))) (mt_node_ok (mt_leaf_ok (sp_get)) (mt_node_ok (mt_leaf_ok (rfl)) (mt_leaf_ok (sp_isto))))) (mt_node_ok (mt_node_ok (mt_leaf_ok (sp_iload)) (mt_node_ok (mt_leaf_ok (sp_push)) (mt_leaf_ok (sp_if2)))) (mt_node_ok (mt_leaf_ok (sp_iload)) (mt_node_ok (mt_leaf_ok (sp_if)) (mt_leaf_ok (sp_push)))))) (mt_node_ok (mt_node_ok (mt_node_ok (mt_leaf_ok (sp_goto)) (mt_node_ok (mt_leaf_ok (sp_push)) (mt_leaf_ok (trivial)))) (mt_node_ok (mt_leaf_ok (sp_iload)) (mt_node_ok (mt_leaf_ok (sp_push)) (mt_leaf_ok (sp_if2))))) (mt_node_ok (mt_node_ok (mt_leaf_ok (sp_iload)) (mt_node_ok (mt_leaf_ok (sp_push)) (mt_leaf_ok (sp_if2)))) (mt_node_ok (mt_leaf_ok (sp_aload)) (mt_node_ok (mt_leaf_ok (sp_get)) (mt_leaf_ok (sp_aload))))))) (mt_node_ok (mt_node_ok (mt_node_ok (mt_node_ok (mt_leaf_ok (sp_get)) (mt_node_ok (mt_leaf_ok (sp_push)) (mt_leaf_ok (sp_bin)))) (mt_node_ok (mt_leaf_ok (sp_iload)) (mt_node_ok (mt_leaf_ok (rfl)) (mt_leaf_ok (sp_if))))) (mt_node_ok (mt_node_ok (mt_leaf_ok (sp_push)) (mt_node_ok (mt_leaf_ok (trivial)) (mt_leaf_ok (sp_iload)))) (mt_node_ok (mt_leaf_ok (sp_push)) (mt_node_ok (mt_leaf_ok (sp_if2)) (mt_leaf_ok (sp_push)))))) (mt_node_ok (mt_node_ok (mt_node_ok (mt_leaf_ok (trivial)) (mt_node_ok (mt_leaf_ok (sp_aload)) (mt_leaf_ok (sp_get)))) (mt_node_ok (mt_leaf_ok (sp_aload)) (mt_node_ok (mt_leaf_ok (sp_get)) (mt_leaf_ok (sp_push))))) (mt_node_ok (mt_node_ok (mt_leaf_ok (sp_bin)) (mt_node_ok (mt_leaf_ok (sp_iload)) (mt_leaf_ok (rfl)))) (mt_node_ok (mt_leaf_ok (sp_if)) (mt_node_ok (mt_leaf_ok (sp_push)) (mt_leaf_ok (sp_goto)))))))
theorem sr_156_1 {g : xe_G} : mt_all (spP srS) (mb_156_1 g) := mt_node_ok (mt_leaf_ok (sp_push)) (mt_leaf_ok (trivial))
theorem sr_156 {g : xe_G} : mt_all (spP srS) (mb_156 g).2.1 := mt_node_ok ((sr_156_0 (g := g))) ((sr_156_1 (g := g)))
theorem sr_157_0 {g : xe_G} : mt_all (spP srS) (mb_157_0 g) := mt_node_ok (mt_node_ok (mt_node_ok (mt_node_ok (mt_node_ok (mt_leaf_ok (sp_iload)) (mt_leaf_ok (sp_sw))) (mt_node_ok (mt_leaf_ok (sp_aload)) (mt_node_ok (mt_leaf_ok (sp_get)) (mt_leaf_ok (sp_get))))) (mt_node_ok (mt_node_ok (mt_leaf_ok (sp_push)) (mt_leaf_ok (sp_if2))) (mt_node_ok (mt_leaf_ok (sp_push)) (mt_node_ok (mt_leaf_ok (sp_goto)) (mt_leaf_ok (sp_push)))))) (mt_node_ok (mt_node_ok (mt_node_ok (mt_leaf_ok (trivial)) (mt_leaf_ok (sp_aload))) (mt_node_ok (mt_leaf_ok (sp_get)) (mt_node_ok (mt_leaf_ok (sp_get)) (mt_leaf_ok (sp_push))))) (mt_node_ok (mt_node_ok (mt_leaf_ok (sp_if2)) (mt_node_ok (mt_leaf_ok (sp_push)) (mt_leaf_ok (sp_goto)))) (mt_node_ok (mt_leaf_ok (sp_push)) (mt_node_ok (mt_leaf_ok (trivial)) (mt_leaf_ok (sp_aload))))))) (mt_node_ok (mt_node_ok (mt_node_ok (mt_node_ok (mt_leaf_ok (sp_get)) (mt_leaf_ok (sp_get))) (mt_node_ok (mt_leaf_ok (sp_push)) (mt_node_ok (mt_leaf_ok (sp_if2)) (mt_leaf_ok (sp_push))))) (mt_node_ok (mt_node_ok (mt_leaf_ok (sp_goto)) (mt_leaf_ok (sp_push))) (mt_node_ok (mt_leaf_ok (trivial)) (mt_node_ok (mt_leaf_ok (sp_iload)) (mt_leaf_ok (sp_push)))))) (mt_node_ok (mt_node_ok (mt_node_ok (mt_leaf_ok (sp_if2)) (mt_leaf_ok (sp_iload))) (mt_node_ok (mt_leaf_ok (sp_push)) (mt_node_ok (mt_leaf_ok (sp_if2)) (mt_leaf_ok (sp_iload))))) (mt_node_ok (mt_node_ok (mt_leaf_ok (sp_push)) (mt_node_ok (mt_leaf_ok (sp_if2)) (mt_leaf_ok (sp_push)))) (mt_node_ok (mt_leaf_ok (sp_goto)) (mt_node_ok (mt_leaf_ok (sp_push)) (mt_leaf_ok (trivial)))))))
theorem sr_157 {g : xe_G} : mt_all (spP srS) (mb_157 g).2.1 := (sr_157_0 (g := g))
theorem sr_158_0 {g : xe_G} : mt_all (spP srS) (mb_158_0 g) := mt_node_ok (mt_node_ok (mt_node_ok (mt_leaf_ok (sp_push)) (mt_node_ok (mt_leaf_ok (sp_iload)) (mt_leaf_ok (sp_aload)))) (mt_node_ok (mt_leaf_ok (sp_get)) (mt_node_ok (mt_leaf_ok (rfl)) (mt_leaf_ok (sp_aload))))) (mt_node_ok (mt_node_ok (mt_leaf_ok (sp_get)) (mt_node_ok (mt_leaf_ok (sp_bin)) (mt_leaf_ok (sp_push)))) (mt_node_ok (mt_node_ok (mt_leaf_ok (sp_div)) (mt_leaf_ok (sp_mm))) (mt_node_ok (mt_leaf_ok (sp_mm)) (mt_leaf_ok (trivial)))))
theorem sr_158 {g : xe_G} : mt_all (spP srS) (mb_158 g).2.1 := (sr_158_0 (g := g))
theorem sr_159_0 {g : xe_G} : mt_all (spP srS) (mb_159_0 g) := mt_node_ok (mt_node_ok (mt_node_ok (mt_node_ok (mt_node_ok (mt_leaf_ok (sp_iload)) (mt_node_ok (mt_leaf_ok (sp_aload)) (mt_leaf_ok (sp_get)))) (mt_node_ok (mt_leaf_ok (rfl)) (mt_node_ok (mt_leaf_ok (sp_aload)) (mt_leaf_ok (sp_get))))) (mt_node_ok (mt_node_ok (mt_leaf_ok (sp_bin)) (mt_node_ok (mt_leaf_ok (sp_if2)) (mt_leaf_ok (sp_aload)))) (mt_node_ok (mt_leaf_ok (sp_get)) (mt_node_ok (mt_leaf_ok (sp_push)) (mt_leaf_ok (sp_aload)))))) (mt_node_ok (mt_node_ok (mt_node_ok (mt_leaf_ok (sp_get)) (mt_node_ok (mt_leaf_ok (rfl)) (mt_leaf_ok (trivial)))) (mt_node_ok (mt_leaf_ok (sp_iload)) (mt_node_ok (mt_leaf_ok (sp_push)) (mt_leaf_ok (sp_if2))))) (mt_node_ok (mt_node_ok (mt_leaf_ok (sp_aload)) (mt_node_ok (mt_leaf_ok (sp_aload)) (mt_leaf_ok (sp_get)))) (mt_node_ok (mt_leaf_ok (sp_aload)) (mt_node_ok (mt_leaf_ok (sp_get)) (mt_leaf_ok (rfl))))))) (mt_node_ok (mt_node_ok (mt_node_ok (mt_node_ok (mt_leaf_ok (sp_put)) (mt_node_ok (mt_leaf_ok (sp_goto)) (mt_leaf_ok (sp_aload)))) (mt_node_ok (mt_leaf_ok (sp_iload)) (mt_node_ok (mt_leaf_ok (sp_push)) (mt_leaf_ok (sp_if2))))) (mt_node_ok (mt_node_ok (mt_leaf_ok (sp_aload)) (mt_node_ok (mt_leaf_ok (sp_get)) (mt_leaf_ok (sp_aload)))) (mt_node_ok (mt_leaf_ok (sp_get)) (mt_node_ok (mt_leaf_ok (rfl)) (mt_leaf_ok (sp_goto)))))) (mt_node_ok (mt_node_ok (mt_node_ok (mt_leaf_ok (sp_aload)) (mt_node_ok (mt_leaf_ok (sp_get)) (mt_leaf_ok (sp_aload)))) (mt_node_ok (mt_leaf_ok (sp_get)) (mt_node_ok (mt_leaf_ok (rfl)) (mt_leaf_ok (sp_put))))) (mt_node_ok (mt_node_ok (mt_leaf_ok (sp_aload)) (mt_node_ok (mt_leaf_ok (sp_dup)) (mt_leaf_ok (sp_get)))) (mt_node_ok (mt_leaf_ok (sp_iload)) (mt_node_ok (mt_leaf_ok (sp_bin)) (mt_leaf_ok (sp_put)))))))
theorem sr_159_1 {g : xe_G} : mt_all (spP srS) (mb_159_1 g) := mt_node_ok (mt_leaf_ok (sp_push)) (mt_leaf_ok (trivial))
theorem sr_159 {g : xe_G} : mt_all (spP srS) (mb_159 g).2.1 := mt_node_ok ((sr_159_0 (g := g))) ((sr_159_1 (g := g)))
theorem sr_160_0 {g : xe_G} : mt_all (spP srS) (mb_160_0 g) := mt_node_ok (mt_node_ok (mt_node_ok (mt_node_ok (mt_node_ok (mt_leaf_ok (sp_aload)) (mt_node_ok (mt_leaf_ok (sp_push)) (mt_leaf_ok (rfl)))) (mt_node_ok (mt_leaf_ok (sp_if)) (mt_node_ok (mt_leaf_ok (sp_push)) (mt_leaf_ok (trivial))))) (mt_node_ok (mt_node_ok (mt_leaf_ok (sp_aload)) (mt_node_ok (mt_leaf_ok (sp_get)) (mt_leaf_ok (sp_isto)))) (mt_node_ok (mt_leaf_ok (sp_push)) (mt_node_ok (mt_leaf_ok (sp_isto)) (mt_leaf_ok (sp_iload)))))) (mt_node_ok (mt_node_ok (mt_node_ok (mt_leaf_ok (sp_iload)) (mt_node_ok (mt_leaf_ok (sp_if2)) (mt_leaf_ok (sp_aload)))) (mt_node_ok (mt_leaf_ok (sp_push)) (mt_node_ok (mt_leaf_ok (rfl)) (mt_leaf_ok (sp_if))))) (mt_node_ok (mt_node_ok (mt_leaf_ok (sp_aload)) (mt_node_ok (mt_leaf_ok (sp_push)) (mt_leaf_ok (rfl)))) (mt_node_ok (mt_leaf_ok (sp_if)) (mt_node_ok (mt_leaf_ok (sp_push)) (mt_leaf_ok (trivial))))))) (mt_node_ok (mt_node_ok (mt_node_ok (mt_node_ok (mt_leaf_ok (sp_aload)) (mt_node_ok (mt_leaf_ok (sp_get)) (mt_leaf_ok (sp_if)))) (mt_node_ok (mt_leaf_ok (sp_aload)) (mt_node_ok (mt_leaf_ok (sp_get)) (mt_leaf_ok (sp_aload))))) (mt_node_ok (mt_node_ok (mt_leaf_ok (sp_get)) (mt_node_ok (mt_leaf_ok (rfl)) (mt_leaf_ok (sp_aload)))) (mt_node_ok (mt_leaf_ok (sp_get)) (mt_node_ok (mt_leaf_ok (sp_bin)) (mt_leaf_ok (sp_if2)))))) (mt_node_ok (mt_node_ok (mt_node_ok (mt_leaf_ok (sp_aload)) (mt_node_ok (mt_leaf_ok (sp_get)) (mt_leaf_ok (sp_push)))) (mt_node_ok (mt_leaf_ok (sp_aload)) (mt_node_ok (mt_leaf_ok (sp_get)) (mt_leaf_ok (rfl))))) (mt_node_ok (mt_node_ok (mt_leaf_ok (trivial)) (mt_node_ok (mt_leaf_ok (sp_aload)) (mt_leaf_ok (sp_dup)))) (mt_node_ok (mt_leaf_ok (sp_get)) (mt_node_ok (mt_leaf_ok (sp_aload)) (mt_leaf_ok (sp_get)))))))
theorem sr_160_1 {g : xe_G} : mt_all (spP srS) (mb_160_1 g) := mt_node_ok (mt_node_ok (mt_leaf_ok (sp_bin)) (mt_node_ok (mt_leaf_ok (sp_put)) (mt_leaf_ok (sp_iinc)))) (mt_node_ok (mt_leaf_ok (sp_goto)) (mt_node_ok (mt_leaf_ok (sp_push)) (mt_leaf_ok (trivial))))
theorem sr_160 {g : xe_G} : mt_all (spP srS) (mb_160 g).2.1 := mt_node_ok ((sr_160_0 (g := g))) ((sr_160_1 (g := g)))
theorem sr_161_0 {g : xe_G} : mt_all (spP srS) (mb_161_0 g) := mt_node_ok (mt_node_ok (mt_node_ok (mt_node_ok (mt_node_ok (mt_leaf_ok (sp_aload)) (mt_leaf_ok (sp_get))) (mt_node_ok (mt_leaf_ok (sp_aload)) (mt_node_ok (mt_leaf_ok (sp_get)) (mt_leaf_ok (sp_put))))) (mt_node_ok (mt_node_ok (mt_leaf_ok (sp_aload)) (mt_node_ok (mt_leaf_ok (sp_push)) (mt_leaf_ok (rfl)))) (mt_node_ok (mt_leaf_ok (sp_if)) (mt_node_ok (mt_leaf_ok (sp_aload)) (mt_leaf_ok (sp_push)))))) (mt_node_ok (mt_node_ok (mt_node_ok (mt_leaf_ok (rfl)) (mt_leaf_ok (sp_if))) (mt_node_ok (mt_leaf_ok (sp_aload)) (mt_node_ok (mt_leaf_ok (sp_push)) (mt_leaf_ok (rfl))))) (mt_node_ok (mt_node_ok (mt_leaf_ok (sp_if)) (mt_node_ok (mt_leaf_ok (sp_aload)) (mt_leaf_ok (sp_push)))) (mt_node_ok (mt_leaf_ok (rfl)) (mt_node_ok (mt_leaf_ok (sp_if)) (mt_leaf_ok (sp_push))))))) (mt_node_ok (mt_node_ok (mt_node_ok (mt_node_ok (mt_leaf_ok (trivial)) (mt_leaf_ok (sp_aload))) (mt_node_ok (mt_leaf_ok (sp_get)) (mt_node_ok (mt_leaf_ok (sp_isto)) (mt_leaf_ok (sp_push))))) (mt_node_ok (mt_node_ok (mt_leaf_ok (sp_isto)) (mt_node_ok (mt_leaf_ok (sp_iload)) (mt_leaf_ok (sp_iload)))) (mt_node_ok (mt_leaf_ok (sp_if2)) (mt_node_ok (mt_leaf_ok (sp_aload)) (mt_leaf_ok (sp_push)))))) (mt_node_ok (mt_node_ok (mt_node_ok (mt_leaf_ok (rfl)) (mt_node_ok (mt_leaf_ok (sp_if)) (mt_leaf_ok (sp_push)))) (mt_node_ok (mt_leaf_ok (trivial)) (mt_node_ok (mt_leaf_ok (sp_iinc)) (mt_leaf_ok (sp_goto))))) (mt_node_ok (mt_node_ok (mt_leaf_ok (sp_aload)) (mt_node_ok (mt_leaf_ok (sp_get)) (mt_leaf_ok (sp_iload)))) (mt_node_ok (mt_leaf_ok (sp_put)) (mt_node_ok (mt_leaf_ok (sp_push)) (mt_leaf_ok (trivial)))))))
theorem sr_161 {g : xe_G} : mt_all (spP srS) (mb_161 g).2.1 := (sr_161_0 (g := g))
theorem sr_162_0 {g : xe_G} : mt_all (spP srS) (mb_162_0 g) := mt_node_ok (mt_node_ok (mt_node_ok (mt_node_ok (mt_node_ok (mt_leaf_ok (sp_aload)) (mt_leaf_ok (sp_get))) (mt_node_ok (mt_leaf_ok (sp_aload)) (mt_leaf_ok (sp_get)))) (mt_node_ok (mt_node_ok (mt_leaf_ok (sp_aload)) (mt_leaf_ok (sp_get))) (mt_node_ok (mt_leaf_ok (rfl)) (mt_node_ok (mt_leaf_ok (sp_put)) (mt_leaf_ok (sp_aload)))))) (mt_node_ok (mt_node_ok (mt_node_ok (mt_leaf_ok (sp_get)) (mt_leaf_ok (sp_aload))) (mt_node_ok (mt_leaf_ok (sp_get)) (mt_leaf_ok (sp_push)))) (mt_node_ok (mt_node_ok (mt_leaf_ok (sp_bin)) (mt_leaf_ok (sp_put))) (mt_node_ok (mt_leaf_ok (sp_aload)) (mt_node_ok (mt_leaf_ok (rfl)) (mt_leaf_ok (sp_if))))))) (mt_node_ok (mt_node_ok (mt_node_ok (mt_node_ok (mt_leaf_ok (sp_push)) (mt_leaf_ok (trivial))) (mt_node_ok (mt_leaf_ok (sp_aload)) (mt_leaf_ok (sp_get)))) (mt_node_ok (mt_node_ok (mt_leaf_ok (sp_aload)) (mt_leaf_ok (sp_get))) (mt_node_ok (mt_leaf_ok (rfl)) (mt_node_ok (mt_leaf_ok (sp_if2)) (mt_leaf_ok (sp_aload)))))) (mt_node_ok (mt_node_ok (mt_node_ok (mt_leaf_ok (sp_get)) (mt_leaf_ok (sp_push))) (mt_node_ok (mt_leaf_ok (sp_aload)) (mt_node_ok (mt_leaf_ok (sp_get)) (mt_leaf_ok (rfl))))) (mt_node_ok (mt_node_ok (mt_leaf_ok (sp_if)) (mt_leaf_ok (sp_push))) (mt_node_ok (mt_leaf_ok (sp_goto)) (mt_node_ok (mt_leaf_ok (sp_push)) (mt_leaf_ok (trivial)))))))
theorem sr_162 {g : xe_G} : mt_all (spP srS) (mb_162 g).2.1 := (sr_162_0 (g := g))
theorem sr_163_0 {g : xe_G} : mt_all (spP srS) (mb_163_0 g) := mt_node_ok (mt_node_ok (mt_node_ok (mt_node_ok (mt_node_ok (mt_leaf_ok (sp_aload)) (mt_node_ok (mt_leaf_ok (sp_get)) (mt_leaf_ok (sp_isto)))) (mt_node_ok (mt_leaf_ok (sp_aload)) (mt_node_ok (mt_leaf_ok (sp_push)) (mt_leaf_ok (rfl))))) (mt_node_ok (mt_node_ok (mt_leaf_ok (sp_if)) (mt_node_ok (mt_leaf_ok (sp_push)) (mt_leaf_ok (trivial)))) (mt_node_ok (mt_leaf_ok (sp_aload)) (mt_node_ok (mt_leaf_ok (sp_get)) (mt_leaf_ok (sp_isto)))))) (mt_node_ok (mt_node_ok (mt_node_ok (mt_leaf_ok (sp_aload)) (mt_node_ok (mt_leaf_ok (sp_iload)) (mt_leaf_ok (rfl)))) (mt_node_ok (mt_leaf_ok (sp_if)) (mt_node_ok (mt_leaf_ok (sp_aload)) (mt_leaf_ok (sp_get))))) (mt_node_ok (mt_node_ok (mt_leaf_ok (sp_push)) (mt_node_ok (mt_leaf_ok (sp_iload)) (mt_leaf_ok (rfl)))) (mt_node_ok (mt_leaf_ok (trivial)) (mt_node_ok (mt_leaf_ok (sp_iload)) (mt_leaf_ok (sp_push))))))) (mt_node_ok (mt_node_ok (mt_node_ok (mt_node_ok (mt_leaf_ok (sp_if2)) (mt_node_ok (mt_leaf_ok (sp_iload)) (mt_leaf_ok (sp_push)))) (mt_node_ok (mt_leaf_ok (sp_if2)) (mt_node_ok (mt_leaf_ok (sp_iload)) (mt_leaf_ok (sp_push))))) (mt_node_ok (mt_node_ok (mt_leaf_ok (sp_bin)) (mt_node_ok (mt_leaf_ok (sp_aload)) (mt_leaf_ok (sp_get)))) (mt_node_ok (mt_leaf_ok (sp_get)) (mt_node_ok (mt_leaf_ok (sp_get)) (mt_leaf_ok (sp_if2)))))) (mt_node_ok (mt_node_ok (mt_node_ok (mt_leaf_ok (sp_aload)) (mt_node_ok (mt_leaf_ok (sp_get)) (mt_leaf_ok (sp_push)))) (mt_node_ok (mt_leaf_ok (sp_iload)) (mt_node_ok (mt_leaf_ok (rfl)) (mt_leaf_ok (trivial))))) (mt_node_ok (mt_node_ok (mt_leaf_ok (sp_aload)) (mt_node_ok (mt_leaf_ok (sp_get)) (mt_leaf_ok (sp_get)))) (mt_node_ok (mt_leaf_ok (sp_iload)) (mt_node_ok (mt_leaf_ok (sp_iload)) (mt_leaf_ok (sp_iload)))))))
theorem sr_163_1 {g : xe_G} : mt_all (spP srS) (mb_163_1 g) := mt_node_ok (mt_node_ok (mt_node_ok (mt_node_ok (mt_leaf_ok (rfl)) (mt_node_ok (mt_leaf_ok (sp_iload)) (mt_leaf_ok (sp_sw)))) (mt_node_ok (mt_node_ok (mt_leaf_ok (sp_aload)) (mt_leaf_ok (sp_iload))) (mt_node_ok (mt_leaf_ok (rfl)) (mt_leaf_ok (trivial))))) (mt_node_ok (mt_node_ok (mt_leaf_ok (sp_aload)) (mt_node_ok (mt_leaf_ok (sp_push)) (mt_leaf_ok (rfl)))) (mt_node_ok (mt_node_ok (mt_leaf_ok (trivial)) (mt_leaf_ok (sp_aload))) (mt_node_ok (mt_leaf_ok (sp_push)) (mt_leaf_ok (rfl)))))) (mt_node_ok (mt_node_ok (mt_node_ok (mt_leaf_ok (sp_if)) (mt_node_ok (mt_leaf_ok (sp_aload)) (mt_leaf_ok (sp_push)))) (mt_node_ok (mt_node_ok (mt_leaf_ok (rfl)) (mt_leaf_ok (sp_if))) (mt_node_ok (mt_leaf_ok (sp_push)) (mt_leaf_ok (sp_goto))))) (mt_node_ok (mt_node_ok (mt_leaf_ok (sp_push)) (mt_node_ok (mt_leaf_ok (trivial)) (mt_leaf_ok (sp_aload)))) (mt_node_ok (mt_node_ok (mt_leaf_ok (sp_iload)) (mt_leaf_ok (sp_iload))) (mt_node_ok (mt_leaf_ok (rfl)) (mt_leaf_ok (trivial))))))
theorem sr_163 {g : xe_G} : mt_all (spP srS) (mb_163 g).2.1 := mt_node_ok ((sr_163_0 (g := g))) ((sr_163_1 (g := g)))
theorem sr_164_0 {g : xe_G} : mt_all (spP srS) (mb_164_0 g) := mt_node_ok (mt_node_ok (mt_node_ok (mt_node_ok (mt_leaf_ok (sp_aload)) (mt_leaf_ok (sp_push))) (mt_node_ok (mt_leaf_ok (rfl)) (mt_node_ok (mt_leaf_ok (sp_if)) (mt_leaf_ok (sp_push))))) (mt_node_ok (mt_node_ok (mt_leaf_ok (trivial)) (mt_node_ok (mt_leaf_ok (sp_aload)) (mt_leaf_ok (sp_get)))) (mt_node_ok (mt_leaf_ok (sp_aload)) (mt_node_ok (mt_leaf_ok (sp_aload)) (mt_leaf_ok (sp_get)))))) (mt_node_ok (mt_node_ok (mt_node_ok (mt_leaf_ok (rfl)) (mt_leaf_ok (sp_anew))) (mt_node_ok (mt_leaf_ok (sp_put)) (mt_node_ok (mt_leaf_ok (sp_aload)) (mt_leaf_ok (sp_aload))))) (mt_node_ok (mt_node_ok (mt_leaf_ok (sp_get)) (mt_node_ok (mt_leaf_ok (sp_get)) (mt_leaf_ok (sp_aload)))) (mt_node_ok (mt_leaf_ok (sp_get)) (mt_node_ok (mt_leaf_ok (rfl)) (mt_leaf_ok (trivial))))))
theorem sr_164 {g : xe_G} : mt_all (spP srS) (mb_164 g).2.1 := (sr_164_0 (g := g))
theorem sr_165_0 {g : xe_G} : mt_all (spP srS) (mb_165_0 g) := mt_node_ok (mt_node_ok (mt_node_ok (mt_node_ok (mt_node_ok (mt_leaf_ok (sp_aload)) (mt_node_ok (mt_leaf_ok (sp_push)) (mt_leaf_ok (rfl)))) (mt_node_ok (mt_leaf_ok (sp_if)) (mt_node_ok (mt_leaf_ok (sp_push)) (mt_leaf_ok (trivial))))) (mt_node_ok (mt_node_ok (mt_leaf_ok (sp_aload)) (mt_node_ok (mt_leaf_ok (sp_get)) (mt_leaf_ok (sp_push)))) (mt_node_ok (mt_leaf_ok (sp_if2)) (mt_node_ok (mt_leaf_ok (sp_aload)) (mt_leaf_ok (sp_get)))))) (mt_node_ok (mt_node_ok (mt_node_ok (mt_leaf_ok (sp_push)) (mt_node_ok (mt_leaf_ok (sp_push)) (mt_leaf_ok (rfl)))) (mt_node_ok (mt_leaf_ok (trivial)) (mt_node_ok (mt_leaf_ok (sp_aload)) (mt_leaf_ok (sp_push))))) (mt_node_ok (mt_node_ok (mt_leaf_ok (rfl)) (mt_node_ok (mt_leaf_ok (sp_if)) (mt_leaf_ok (sp_push)))) (mt_node_ok (mt_leaf_ok (trivial)) (mt_node_ok (mt_leaf_ok (sp_aload)) (mt_leaf_ok (sp_get))))))) (mt_node_ok (mt_node_ok (mt_node_ok (mt_node_ok (mt_leaf_ok (sp_aload)) (mt_node_ok (mt_leaf_ok (sp_get)) (mt_leaf_ok (sp_put)))) (mt_node_ok (mt_leaf_ok (sp_aload)) (mt_node_ok (mt_leaf_ok (sp_push)) (mt_leaf_ok (rfl))))) (mt_node_ok (mt_node_ok (mt_leaf_ok (sp_if)) (mt_node_ok (mt_leaf_ok (sp_push)) (mt_leaf_ok (trivial)))) (mt_node_ok (mt_leaf_ok (sp_aload)) (mt_node_ok (mt_leaf_ok (sp_get)) (mt_leaf_ok (sp_aload)))))) (mt_node_ok (mt_node_ok (mt_node_ok (mt_leaf_ok (sp_get)) (mt_node_ok (mt_leaf_ok (sp_put)) (mt_leaf_ok (sp_aload)))) (mt_node_ok (mt_leaf_ok (sp_get)) (mt_node_ok (mt_leaf_ok (sp_push)) (mt_leaf_ok (sp_if2))))) (mt_node_ok (mt_node_ok (mt_leaf_ok (sp_aload)) (mt_node_ok (mt_leaf_ok (sp_get)) (mt_leaf_ok (sp_push)))) (mt_node_ok (mt_leaf_ok (sp_if2)) (mt_node_ok (mt_leaf_ok (sp_aload)) (mt_leaf_ok (sp_get)))))))
theorem sr_165_1 {g : xe_G} : mt_all (spP srS) (mb_165_1 g) := mt_node_ok (mt_node_ok (mt_node_ok (mt_leaf_ok (sp_push)) (mt_node_ok (mt_leaf_ok (sp_if2)) (mt_leaf_ok (sp_aload)))) (mt_node_ok (mt_node_ok (mt_leaf_ok (sp_get)) (mt_leaf_ok (sp_get))) (mt_node_ok (mt_leaf_ok (sp_if)) (mt_leaf_ok (sp_aload))))) (mt_node_ok (mt_node_ok (mt_leaf_ok (sp_get)) (mt_node_ok (mt_leaf_ok (sp_push)) (mt_leaf_ok (sp_push)))) (mt_node_ok (mt_node_ok (mt_leaf_ok (rfl)) (mt_leaf_ok (trivial))) (mt_node_ok (mt_leaf_ok (sp_push)) (mt_leaf_ok (trivial)))))
theorem sr_165 {g : xe_G} : mt_all (spP srS) (mb_165 g).2.1 := mt_node_ok ((sr_165_0 (g := g))) ((sr_165_1 (g := g)))
theorem sr_166_0 {g : xe_G} : mt_all (spP srS) (mb_166_0 g) := mt_node_ok (mt_node_ok (mt_node_ok (mt_node_ok (mt_node_ok (mt_leaf_ok (sp_aload)) (mt_node_ok (mt_leaf_ok (sp_iload)) (mt_leaf_ok (sp_push)))) (mt_node_ok (mt_leaf_ok (sp_if2)) (mt_node_ok (mt_leaf_ok (sp_push)) (mt_leaf_ok (sp_goto))))) (mt_node_ok (mt_node_ok (mt_leaf_ok (sp_push)) (mt_node_ok (mt_leaf_ok (rfl)) (mt_leaf_ok (sp_if)))) (mt_node_ok (mt_leaf_ok (sp_push)) (mt_node_ok (mt_leaf_ok (trivial)) (mt_leaf_ok (sp_aload)))))) (mt_node_ok (mt_node_ok (mt_node_ok (mt_leaf_ok (sp_get)) (mt_node_ok (mt_leaf_ok (sp_isto)) (mt_leaf_ok (sp_push)))) (mt_node_ok (mt_leaf_ok (sp_isto)) (mt_node_ok (mt_leaf_ok (sp_iload)) (mt_leaf_ok (sp_push))))) (mt_node_ok (mt_node_ok (mt_leaf_ok (sp_if2)) (mt_node_ok (mt_leaf_ok (sp_iload)) (mt_leaf_ok (sp_push)))) (mt_node_ok (mt_leaf_ok (sp_if2)) (mt_node_ok (mt_leaf_ok (sp_iload)) (mt_leaf_ok (sp_push))))))) (mt_node_ok (mt_node_ok (mt_node_ok (mt_node_ok (mt_leaf_ok (sp_if2)) (mt_node_ok (mt_leaf_ok (sp_iload)) (mt_leaf_ok (sp_push)))) (mt_node_ok (mt_leaf_ok (sp_if2)) (mt_node_ok (mt_leaf_ok (sp_iload)) (mt_leaf_ok (sp_push))))) (mt_node_ok (mt_node_ok (mt_leaf_ok (sp_if2)) (mt_node_ok (mt_leaf_ok (sp_aload)) (mt_leaf_ok (sp_push)))) (mt_node_ok (mt_leaf_ok (rfl)) (mt_node_ok (mt_leaf_ok (sp_if)) (mt_leaf_ok (sp_push)))))) (mt_node_ok (mt_node_ok (mt_node_ok (mt_leaf_ok (trivial)) (mt_node_ok (mt_leaf_ok (sp_aload)) (mt_leaf_ok (sp_get)))) (mt_node_ok (mt_leaf_ok (sp_isto)) (mt_node_ok (mt_leaf_ok (sp_aload)) (mt_leaf_ok (sp_get))))) (mt_node_ok (mt_node_ok (mt_leaf_ok (sp_get)) (mt_node_ok (mt_leaf_ok (sp_iload)) (mt_leaf_ok (sp_iload)))) (mt_node_ok (mt_leaf_ok (sp_iload)) (mt_node_ok (mt_leaf_ok (rfl)) (mt_leaf_ok (sp_push)))))))
theorem sr_166_1 {g : xe_G} : mt_all (spP srS) (mb_166_1 g) := mt_leaf_ok (trivial)
theorem sr_166 {g : xe_G} : mt_all (spP srS) (mb_166 g).2.1 := mt_node_ok ((sr_166_0 (g := g))) ((sr_166_1 (g := g)))
theorem sr_167_0 {g : xe_G} : mt_all (spP srS) (mb_167_0 g) := mt_node_ok (mt_node_ok (mt_node_ok (mt_node_ok (mt_node_ok (mt_leaf_ok (sp_push)) (mt_leaf_ok (sp_isto))) (mt_node_ok (mt_leaf_ok (sp_iload)) (mt_node_ok (mt_leaf_ok (sp_iload)) (mt_leaf_ok (sp_if2))))) (mt_node_ok (mt_node_ok (mt_leaf_ok (sp_aload)) (mt_leaf_ok (sp_get))) (mt_node_ok (mt_leaf_ok (sp_isto)) (mt_node_ok (mt_leaf_ok (sp_aload)) (mt_leaf_ok (sp_push)))))) (mt_node_ok (mt_node_ok (mt_node_ok (mt_leaf_ok (rfl)) (mt_leaf_ok (sp_if))) (mt_node_ok (mt_leaf_ok (sp_aload)) (mt_node_ok (mt_leaf_ok (sp_push)) (mt_leaf_ok (rfl))))) (mt_node_ok (mt_node_ok (mt_leaf_ok (sp_if)) (mt_node_ok (mt_leaf_ok (sp_aload)) (mt_leaf_ok (sp_push)))) (mt_node_ok (mt_leaf_ok (rfl)) (mt_node_ok (mt_leaf_ok (sp_if)) (mt_leaf_ok (sp_aload))))))) (mt_node_ok (mt_node_ok (mt_node_ok (mt_node_ok (mt_leaf_ok (rfl)) (mt_leaf_ok (sp_if))) (mt_node_ok (mt_leaf_ok (sp_push)) (mt_node_ok (mt_leaf_ok (trivial)) (mt_leaf_ok (sp_iload))))) (mt_node_ok (mt_node_ok (mt_leaf_ok (sp_aload)) (mt_leaf_ok (sp_alen))) (mt_node_ok (mt_leaf_ok (sp_if2)) (mt_node_ok (mt_leaf_ok (sp_aload)) (mt_leaf_ok (sp_iload)))))) (mt_node_ok (mt_node_ok (mt_node_ok (mt_leaf_ok (sp_new)) (mt_leaf_ok (sp_dup))) (mt_node_ok (mt_leaf_ok (sp_aload)) (mt_node_ok (mt_leaf_ok (sp_get)) (mt_leaf_ok (sp_iload))))) (mt_node_ok (mt_node_ok (mt_leaf_ok (rfl)) (mt_node_ok (mt_leaf_ok (sp_aast)) (mt_leaf_ok (sp_iinc)))) (mt_node_ok (mt_leaf_ok (sp_goto)) (mt_node_ok (mt_leaf_ok (sp_push)) (mt_leaf_ok (trivial)))))))
theorem sr_167 {g : xe_G} : mt_all (spP srS) (mb_167 g).2.1 := (sr_167_0 (g := g))
theorem sr_168_0 {g : xe_G} : mt_all (spP srS) (mb_168_0 g) := mt_node_ok (mt_node_ok (mt_node_ok (mt_node_ok (mt_leaf_ok (sp_aload)) (mt_leaf_ok (sp_push))) (mt_node_ok (mt_leaf_ok (rfl)) (mt_node_ok (mt_leaf_ok (sp_if)) (mt_leaf_ok (sp_push))))) (mt_node_ok (mt_node_ok (mt_leaf_ok (trivial)) (mt_node_ok (mt_leaf_ok (sp_aload)) (mt_leaf_ok (sp_get)))) (mt_node_ok (mt_leaf_ok (sp_aload)) (mt_node_ok (mt_leaf_ok (sp_aload)) (mt_leaf_ok (sp_get)))))) (mt_node_ok (mt_node_ok (mt_node_ok (mt_leaf_ok (rfl)) (mt_leaf_ok (sp_anew))) (mt_node_ok (mt_leaf_ok (sp_put)) (mt_node_ok (mt_leaf_ok (sp_aload)) (mt_leaf_ok (sp_aload))))) (mt_node_ok (mt_node_ok (mt_leaf_ok (sp_get)) (mt_node_ok (mt_leaf_ok (sp_get)) (mt_leaf_ok (sp_aload)))) (mt_node_ok (mt_leaf_ok (sp_get)) (mt_node_ok (mt_leaf_ok (rfl)) (mt_leaf_ok (trivial))))))
theorem sr_168 {g : xe_G} : mt_all (spP srS) (mb_168 g).2.1 := (sr_168_0 (g := g))
theorem sr_169_0 {g : xe_G} : mt_all (spP srS) (mb_169_0 g) := mt_node_ok (mt_node_ok (mt_node_ok (mt_node_ok (mt_node_ok (mt_leaf_ok (sp_aload)) (mt_node_ok (mt_leaf_ok (sp_get)) (mt_leaf_ok (sp_isto)))) (mt_node_ok (mt_leaf_ok (sp_aload)) (mt_node_ok (mt_leaf_ok (sp_push)) (mt_leaf_ok (rfl))))) (mt_node_ok (mt_node_ok (mt_leaf_ok (sp_if)) (mt_node_ok (mt_leaf_ok (sp_push)) (mt_leaf_ok (trivial)))) (mt_node_ok (mt_leaf_ok (sp_aload)) (mt_node_ok (mt_leaf_ok (sp_get)) (mt_leaf_ok (sp_if)))))) (mt_node_ok (mt_node_ok (mt_node_ok (mt_leaf_ok (sp_aload)) (mt_node_ok (mt_leaf_ok (sp_get)) (mt_leaf_ok (sp_push)))) (mt_node_ok (mt_leaf_ok (sp_iload)) (mt_node_ok (mt_leaf_ok (rfl)) (mt_leaf_ok (trivial))))) (mt_node_ok (mt_node_ok (mt_leaf_ok (sp_new)) (mt_node_ok (mt_leaf_ok (sp_dup)) (mt_leaf_ok (sp_aload)))) (mt_node_ok (mt_leaf_ok (sp_get)) (mt_node_ok (mt_leaf_ok (sp_aload)) (mt_leaf_ok (sp_get))))))) (mt_node_ok (mt_node_ok (mt_node_ok (mt_node_ok (mt_leaf_ok (rfl)) (mt_node_ok (mt_leaf_ok (rfl)) (mt_leaf_ok (sp_asto)))) (mt_node_ok (mt_leaf_ok (sp_aload)) (mt_node_ok (mt_leaf_ok (sp_get)) (mt_leaf_ok (sp_aload))))) (mt_node_ok (mt_node_ok (mt_leaf_ok (sp_put)) (mt_node_ok (mt_leaf_ok (sp_push)) (mt_leaf_ok (sp_isto)))) (mt_node_ok (mt_leaf_ok (sp_iload)) (mt_node_ok (mt_leaf_ok (sp_aload)) (mt_leaf_ok (sp_get)))))) (mt_node_ok (mt_node_ok (mt_node_ok (mt_leaf_ok (sp_if2)) (mt_node_ok (mt_leaf_ok (sp_aload)) (mt_leaf_ok (sp_iload)))) (mt_node_ok (mt_leaf_ok (rfl)) (mt_node_ok (mt_leaf_ok (sp_if)) (mt_leaf_ok (sp_push))))) (mt_node_ok (mt_node_ok (mt_leaf_ok (trivial)) (mt_node_ok (mt_leaf_ok (sp_iload)) (mt_leaf_ok (sp_aload)))) (mt_node_ok (mt_leaf_ok (sp_iload)) (mt_node_ok (mt_leaf_ok (rfl)) (mt_leaf_ok (sp_if)))))))
theorem sr_169_1 {g : xe_G} : mt_all (spP srS) (mb_169_1 g) := mt_node_ok (mt_node_ok (mt_node_ok (mt_leaf_ok (sp_push)) (mt_leaf_ok (sp_goto))) (mt_node_ok (mt_leaf_ok (sp_push)) (mt_leaf_ok (sp_bin)))) (mt_node_ok (mt_node_ok (mt_leaf_ok (sp_isto)) (mt_leaf_ok (sp_goto))) (mt_node_ok (mt_leaf_ok (sp_push)) (mt_leaf_ok (trivial))))
theorem sr_169 {g : xe_G} : mt_all (spP srS) (mb_169 g).2.1 := mt_node_ok ((sr_169_0 (g := g))) ((sr_169_1 (g := g)))
theorem sr_170_0 {g : xe_G} : mt_all (spP srS) (mb_170_0 g) := mt_node_ok (mt_node_ok (mt_node_ok (mt_node_ok (mt_node_ok (mt_leaf_ok (sp_aload)) (mt_node_ok (mt_leaf_ok (sp_push)) (mt_leaf_ok (rfl)))) (mt_node_ok (mt_leaf_ok (sp_if)) (mt_node_ok (mt_leaf_ok (sp_push)) (mt_leaf_ok (trivial))))) (mt_node_ok (mt_node_ok (mt_leaf_ok (sp_aload)) (mt_node_ok (mt_leaf_ok (sp_get)) (mt_leaf_ok (sp_aload)))) (mt_node_ok (mt_leaf_ok (sp_get)) (mt_node_ok (mt_leaf_ok (rfl)) (mt_leaf_ok (sp_aload)))))) (mt_node_ok (mt_node_ok (mt_node_ok (mt_leaf_ok (sp_get)) (mt_node_ok (mt_leaf_ok (sp_bin)) (mt_leaf_ok (sp_if2)))) (mt_node_ok (mt_leaf_ok (sp_aload)) (mt_node_ok (mt_leaf_ok (sp_get)) (mt_leaf_ok (sp_push))))) (mt_node_ok (mt_node_ok (mt_leaf_ok (sp_aload)) (mt_node_ok (mt_leaf_ok (sp_get)) (mt_leaf_ok (rfl)))) (mt_node_ok (mt_leaf_ok (trivial)) (mt_node_ok (mt_leaf_ok (sp_aload)) (mt_leaf_ok (sp_get))))))) (mt_node_ok (mt_node_ok (mt_node_ok (mt_node_ok (mt_leaf_ok (sp_aload)) (mt_node_ok (mt_leaf_ok (sp_get)) (mt_leaf_ok (sp_bin)))) (mt_node_ok (mt_leaf_ok (sp_isto)) (mt_node_ok (mt_leaf_ok (sp_aload)) (mt_leaf_ok (sp_get))))) (mt_node_ok (mt_node_ok (mt_leaf_ok (sp_get)) (mt_node_ok (mt_leaf_ok (sp_get)) (mt_leaf_ok (sp_isto)))) (mt_node_ok (mt_leaf_ok (sp_aload)) (mt_node_ok (mt_leaf_ok (sp_get)) (mt_leaf_ok (sp_iload)))))) (mt_node_ok (mt_node_ok (mt_node_ok (mt_leaf_ok (sp_if2)) (mt_node_ok (mt_leaf_ok (sp_aload)) (mt_leaf_ok (sp_iload)))) (mt_node_ok (mt_leaf_ok (rfl)) (mt_node_ok (mt_leaf_ok (sp_isto)) (mt_leaf_ok (sp_iload))))) (mt_node_ok (mt_node_ok (mt_leaf_ok (sp_push)) (mt_node_ok (mt_leaf_ok (sp_if2)) (mt_leaf_ok (sp_aload)))) (mt_node_ok (mt_leaf_ok (sp_get)) (mt_node_ok (mt_leaf_ok (sp_push)) (mt_leaf_ok (sp_aload)))))))
theorem sr_170_1 {g : xe_G} : mt_all (spP srS) (mb_170_1 g) := mt_node_ok (mt_node_ok (mt_node_ok (mt_node_ok (mt_leaf_ok (sp_get)) (mt_node_ok (mt_leaf_ok (rfl)) (mt_leaf_ok (trivial)))) (mt_node_ok (mt_node_ok (mt_leaf_ok (sp_aload)) (mt_leaf_ok (sp_get))) (mt_node_ok (mt_leaf_ok (sp_get)) (mt_leaf_ok (sp_aload))))) (mt_node_ok (mt_node_ok (mt_node_ok (mt_leaf_ok (sp_iload)) (mt_leaf_ok (rfl))) (mt_node_ok (mt_leaf_ok (rfl)) (mt_leaf_ok (sp_aload)))) (mt_node_ok (mt_node_ok (mt_leaf_ok (sp_dup)) (mt_leaf_ok (sp_get))) (mt_node_ok (mt_leaf_ok (sp_iload)) (mt_leaf_ok (sp_bin)))))) (mt_node_ok (mt_node_ok (mt_node_ok (mt_node_ok (mt_leaf_ok (sp_put)) (mt_leaf_ok (sp_goto))) (mt_node_ok (mt_leaf_ok (sp_aload)) (mt_leaf_ok (sp_get)))) (mt_node_ok (mt_node_ok (mt_leaf_ok (sp_get)) (mt_leaf_ok (sp_iload))) (mt_node_ok (mt_leaf_ok (sp_iload)) (mt_leaf_ok (sp_aload))))) (mt_node_ok (mt_node_ok (mt_node_ok (mt_leaf_ok (sp_get)) (mt_leaf_ok (sp_get))) (mt_node_ok (mt_leaf_ok (sp_get)) (mt_leaf_ok (sp_iload)))) (mt_node_ok (mt_node_ok (mt_leaf_ok (sp_bin)) (mt_leaf_ok (rfl))) (mt_node_ok (mt_leaf_ok (sp_push)) (mt_leaf_ok (trivial))))))
theorem sr_170 {g : xe_G} : mt_all (spP srS) (mb_170 g).2.1 := mt_node_ok ((sr_170_0 (g := g))) ((sr_170_1 (g := g)))
theorem sr_171_0 {g : xe_G} : mt_all (spP srS) (mb_171_0 g) := mt_node_ok (mt_node_ok (mt_leaf_ok (sp_aload)) (mt_node_ok (mt_leaf_ok (sp_drop)) (mt_leaf_ok (sp_aload)))) (mt_node_ok (mt_leaf_ok (sp_push)) (mt_node_ok (mt_leaf_ok (sp_put)) (mt_leaf_ok (trivial))))
theorem sr_171 {g : xe_G} : mt_all (spP srS) (mb_171 g).2.1 := (sr_171_0 (g := g))
theorem sr_172_0 {g : xe_G} : mt_all (spP srS) (mb_172_0 g) := mt_node_ok (mt_node_ok (mt_node_ok (mt_leaf_ok (sp_aload)) (mt_leaf_ok (sp_iload))) (mt_node_ok (mt_leaf_ok (sp_put)) (mt_leaf_ok (sp_aload)))) (mt_node_ok (mt_node_ok (mt_leaf_ok (sp_iload)) (mt_leaf_ok (sp_put))) (mt_node_ok (mt_leaf_ok (sp_push)) (mt_leaf_ok (trivial))))
theorem sr_172 {g : xe_G} : mt_all (spP srS) (mb_172 g).2.1 := (sr_172_0 (g := g))
theorem sr_257_0 {g : xe_G} : mt_all (spP srS) (mb_257_0 g) := mt_node_ok (mt_node_ok (mt_node_ok (mt_node_ok (mt_node_ok (mt_leaf_ok (sp_iload)) (mt_leaf_ok (sp_iload))) (mt_node_ok (mt_leaf_ok (sp_push)) (mt_node_ok (mt_leaf_ok (sp_bin)) (mt_leaf_ok (sp_push))))) (mt_node_ok (mt_node_ok (mt_leaf_ok (sp_bin)) (mt_leaf_ok (sp_bin))) (mt_node_ok (mt_leaf_ok (sp_isto)) (mt_node_ok (mt_leaf_ok (sp_iload)) (mt_leaf_ok (sp_push)))))) (mt_node_ok (mt_node_ok (mt_node_ok (mt_leaf_ok (sp_bin)) (mt_leaf_ok (sp_iload))) (mt_node_ok (mt_leaf_ok (sp_push)) (mt_node_ok (mt_leaf_ok (sp_bin)) (mt_leaf_ok (sp_push))))) (mt_node_ok (mt_node_ok (mt_leaf_ok (sp_bin)) (mt_node_ok (mt_leaf_ok (sp_bin)) (mt_leaf_ok (sp_isto)))) (mt_node_ok (mt_leaf_ok (sp_iload)) (mt_node_ok (mt_leaf_ok (sp_iload)) (mt_leaf_ok (sp_push))))))) (mt_node_ok (mt_node_ok (mt_node_ok (mt_node_ok (mt_leaf_ok (sp_bin)) (mt_leaf_ok (sp_bin))) (mt_node_ok (mt_leaf_ok (sp_push)) (mt_node_ok (mt_leaf_ok (sp_bin)) (mt_leaf_ok (sp_isto))))) (mt_node_ok (mt_node_ok (mt_leaf_ok (sp_iload)) (mt_leaf_ok (sp_iload))) (mt_node_ok (mt_leaf_ok (sp_push)) (mt_node_ok (mt_leaf_ok (sp_bin)) (mt_leaf_ok (sp_bin)))))) (mt_node_ok (mt_node_ok (mt_node_ok (mt_leaf_ok (sp_isto)) (mt_leaf_ok (sp_iload))) (mt_node_ok (mt_leaf_ok (sp_iload)) (mt_node_ok (mt_leaf_ok (sp_push)) (mt_leaf_ok (sp_bin))))) (mt_node_ok (mt_node_ok (mt_leaf_ok (sp_bin)) (mt_node_ok (mt_leaf_ok (sp_isto)) (mt_leaf_ok (sp_iload)))) (mt_node_ok (mt_leaf_ok (sp_push)) (mt_node_ok (mt_leaf_ok (sp_bin)) (mt_leaf_ok (trivial)))))))
theorem sr_257 {g : xe_G} : mt_all (spP srS) (mb_257 g).2.1 := (sr_257_0 (g := g))
theorem sr_all {g : xe_G} : ∀ y b, srS.elem y = true → mT g y = some b → mt_all (spP srS) b.2.1 := by
  intro y b hy hb
  have hy : y ∈ srS := by simpa using hy
  simp only [srS, List.mem_cons, List.not_mem_nil, or_false] at hy
  rcases hy with rfl | rfl | rfl | rfl | rfl | rfl | rfl | rfl | rfl | rfl | rfl | rfl | rfl | rfl | rfl | rfl | rfl | rfl | rfl | rfl | rfl | rfl | rfl | rfl | rfl | rfl | rfl | rfl | rfl | rfl | rfl | rfl | rfl | rfl | rfl | rfl | rfl | rfl | rfl | rfl | rfl | rfl | rfl | rfl | rfl | rfl | rfl | rfl | rfl | rfl | rfl | rfl | rfl | rfl | rfl | rfl | rfl | rfl | rfl | rfl | rfl | rfl | rfl | rfl | rfl | rfl | rfl | rfl | rfl | rfl | rfl | rfl | rfl | rfl | rfl | rfl | rfl | rfl | rfl | rfl | rfl | rfl | rfl | rfl | rfl | rfl | rfl | rfl | rfl | rfl | rfl | rfl | rfl | rfl | rfl | rfl | rfl | rfl | rfl | rfl | rfl | rfl | rfl | rfl | rfl | rfl | rfl | rfl | rfl | rfl | rfl | rfl | rfl | rfl | rfl | rfl | rfl | rfl
  · cases (show some (mb_11 g) = some b from hb)
    exact sr_11 (g := g)
  · cases (show some (mb_13 g) = some b from hb)
    exact sr_13 (g := g)
  · cases (show some (mb_18 g) = some b from hb)
    exact sr_18 (g := g)
  · cases (show some (mb_21 g) = some b from hb)
    exact sr_21 (g := g)
  · cases (show some (mb_22 g) = some b from hb)
    exact sr_22 (g := g)
  · cases (show some (mb_23 g) = some b from hb)
    exact sr_23 (g := g)
  · cases (show some (mb_24 g) = some b from hb)
    exact sr_24 (g := g)
  · cases (show some (mb_25 g) = some b from hb)
    exact sr_25 (g := g)
  · cases (show some (mb_26 g) = some b from hb)
    exact sr_26 (g := g)
  · cases (show some (mb_27 g) = some b from hb)
    exact sr_27 (g := g)
  · cases (show some (mb_28 g) = some b from hb)
    exact sr_28 (g := g)
  · cases (show some (mb_29 g) = some b from hb)
    exact sr_29 (g := g)
  · cases (show some (mb_30 g) = some b from hb)
    exact sr_30 (g := g)
  · cases (show some (mb_31 g) = some b from hb)
    exact sr_31 (g := g)
  · cases (show some (mb_32 g) = some b from hb)
    exact sr_32 (g := g)
  · cases (show some (mb_33 g) = some b from hb)
    exact sr_33 (g := g)
  · cases (show some (mb_34 g) = some b from hb)
    exact sr_34 (g := g)
  · cases (show some (mb_35 g) = some b from hb)
    exact sr_35 (g := g)
  · cases (show some (mb_36 g) = some b from hb)
    exact sr_36 (g := g)
  · cases (show some (mb_37 g) = some b from hb)
    exact sr_37 (g := g)
  · cases (show some (mb_38 g) = some b from hb)
    exact sr_38 (g := g)
  · cases (show some (mb_39 g) = some b from hb)
    exact sr_39 (g := g)
  · cases (show some (mb_40 g) = some b from hb)
    exact sr_40 (g := g)
  · cases (show some (mb_41 g) = some b from hb)
    exact sr_41 (g := g)
  · cases (show some (mb_42 g) = some b from hb)
    exact sr_42 (g := g)
  · cases (show some (mb_43 g) = some b from hb)
    exact sr_43 (g := g)
  · cases (show some (mb_44 g) = some b from hb)
    exact sr_44 (g := g)
  · cases (show some (mb_45 g) = some b from hb)
    exact sr_45 (g := g)
  · cases (show some (mb_46 g) = some b from hb)
    exact sr_46 (g := g)
  · cases (show some (mb_47 g) = some b from hb)
    exact sr_47 (g := g)
  · cases (show some (mb_48 g) = some b from hb)
    exact sr_48 (g := g)
  · cases (show some (mb_49 g) = some b from hb)
    exact sr_49 (g := g)
  · cases (show some (mb_50 g) = some b from hb)
    exact sr_50 (g := g)
  · cases (show some (mb_51 g) = some b from hb)
    exact sr_51 (g := g)
  · cases (show some (mb_52 g) = some b from hb)
    exact sr_52 (g := g)
  · cases (show some (mb_53 g) = some b from hb)
    exact sr_53 (g := g)
  · cases (show some (mb_54 g) = some b from hb)
    exact sr_54 (g := g)
  · cases (show some (mb_55 g) = some b from hb)
    exact sr_55 (g := g)
  · cases (show some (mb_56 g) = some b from hb)
    exact sr_56 (g := g)
  · cases (show some (mb_57 g) = some b from hb)
    exact sr_57 (g := g)
  · cases (show some (mb_58 g) = some b from hb)
    exact sr_58 (g := g)
  · cases (show some (mb_59 g) = some b from hb)
    exact sr_59 (g := g)
  · cases (show some (mb_60 g) = some b from hb)
    exact sr_60 (g := g)
  · cases (show some (mb_61 g) = some b from hb)
    exact sr_61 (g := g)
  · cases (show some (mb_62 g) = some b from hb)
    exact sr_62 (g := g)
  · cases (show some (mb_63 g) = some b from hb)
    exact sr_63 (g := g)
  · cases (show some (mb_64 g) = some b from hb)
    exact sr_64 (g := g)
  · cases (show some (mb_65 g) = some b from hb)
    exact sr_65 (g := g)
  · cases (show some (mb_66 g) = some b from hb)
    exact sr_66 (g := g)
  · cases (show some (mb_67 g) = some b from hb)
    exact sr_67 (g := g)
  · cases (show some (mb_68 g) = some b from hb)
    exact sr_68 (g := g)
  · cases (show some (mb_71 g) = some b from hb)
    exact sr_71 (g := g)
  · cases (show some (mb_74 g) = some b from hb)
    exact sr_74 (g := g)
  · cases (show some (mb_86 g) = some b from hb)
    exact sr_86 (g := g)
  · cases (show some (mb_106 g) = some b from hb)
    exact sr_106 (g := g)
  · cases (show some (mb_108 g) = some b from hb)
    exact sr_108 (g := g)
  · cases (show some (mb_110 g) = some b from hb)
    exact sr_110 (g := g)
  · cases (show some (mb_111 g) = some b from hb)
    exact sr_111 (g := g)
  · cases (show some (mb_112 g) = some b from hb)
    exact sr_112 (g := g)
  · cases (show some (mb_113 g) = some b from hb)
    exact sr_113 (g := g)
  · cases (show some (mb_114 g) = some b from hb)
    exact sr_114 (g := g)
  · cases (show some (mb_115 g) = some b from hb)
    exact sr_115 (g := g)
  · cases (show some (mb_117 g) = some b from hb)
    exact sr_117 (g := g)
  · cases (show some (mb_118 g) = some b from hb)
    exact sr_118 (g := g)
  · cases (show some (mb_119 g) = some b from hb)
    exact sr_119 (g := g)
  · cases (show some (mb_120 g) = some b from hb)
    exact sr_120 (g := g)
  · cases (show some (mb_121 g) = some b from hb)
    exact sr_121 (g := g)
  · cases (show some (mb_122 g) = some b from hb)
    exact sr_122 (g := g)
  · cases (show some (mb_123 g) = some b from hb)
    exact sr_123 (g := g)
  · cases (show some (mb_124 g) = some b from hb)
    exact sr_124 (g := g)
  · cases (show some (mb_125 g) = some b from hb)
    exact sr_125 (g := g)
  · cases (show some (mb_126 g) = some b from hb)
    exact sr_126 (g := g)
  · cases (show some (mb_127 g) = some b from hb)
    exact sr_127 (g := g)
  · cases (show some (mb_128 g) = some b from hb)
    exact sr_128 (g := g)
  · cases (show some (mb_129 g) = some b from hb)
    exact sr_129 (g := g)
  · cases (show some (mb_130 g) = some b from hb)
    exact sr_130 (g := g)
  · cases (show some (mb_132 g) = some b from hb)
    exact sr_132 (g := g)
  · cases (show some (mb_133 g) = some b from hb)
    exact sr_133 (g := g)
  · cases (show some (mb_134 g) = some b from hb)
    exact sr_134 (g := g)
  · cases (show some (mb_135 g) = some b from hb)
    exact sr_135 (g := g)
  · cases (show some (mb_136 g) = some b from hb)
    exact sr_136 (g := g)
  · cases (show some (mb_137 g) = some b from hb)
    exact sr_137 (g := g)
  · cases (show some (mb_138 g) = some b from hb)
    exact sr_138 (g := g)
  · cases (show some (mb_139 g) = some b from hb)
    exact sr_139 (g := g)
  · cases (show some (mb_140 g) = some b from hb)
    exact sr_140 (g := g)
  · cases (show some (mb_141 g) = some b from hb)
    exact sr_141 (g := g)
  · cases (show some (mb_142 g) = some b from hb)
    exact sr_142 (g := g)
  · cases (show some (mb_143 g) = some b from hb)
    exact sr_143 (g := g)
  · cases (show some (mb_144 g) = some b from hb)
    exact sr_144 (g := g)
  · cases (show some (mb_145 g) = some b from hb)
    exact sr_145 (g := g)
  · cases (show some (mb_146 g) = some b from hb)
    exact sr_146 (g := g)
  · cases (show some (mb_147 g) = some b from hb)
    exact sr_147 (g := g)
  · cases (show some (mb_148 g) = some b from hb)
    exact sr_148 (g := g)
  · cases (show some (mb_149 g) = some b from hb)
    exact sr_149 (g := g)
  · cases (show some (mb_150 g) = some b from hb)
    exact sr_150 (g := g)
  · cases (show some (mb_151 g) = some b from hb)
    exact sr_151 (g := g)
  · cases (show some (mb_152 g) = some b from hb)
    exact sr_152 (g := g)
  · cases (show some (mb_153 g) = some b from hb)
    exact sr_153 (g := g)
  · cases (show some (mb_154 g) = some b from hb)
    exact sr_154 (g := g)
  · cases (show some (mb_155 g) = some b from hb)
    exact sr_155 (g := g)
  · cases (show some (mb_156 g) = some b from hb)
    exact sr_156 (g := g)
  · cases (show some (mb_157 g) = some b from hb)
    exact sr_157 (g := g)
  · cases (show some (mb_158 g) = some b from hb)
    exact sr_158 (g := g)
  · cases (show some (mb_159 g) = some b from hb)
    exact sr_159 (g := g)
  · cases (show some (mb_160 g) = some b from hb)
    exact sr_160 (g := g)
  · cases (show some (mb_161 g) = some b from hb)
    exact sr_161 (g := g)
  · cases (show some (mb_162 g) = some b from hb)
    exact sr_162 (g := g)
  · cases (show some (mb_163 g) = some b from hb)
    exact sr_163 (g := g)
  · cases (show some (mb_164 g) = some b from hb)
    exact sr_164 (g := g)
  · cases (show some (mb_165 g) = some b from hb)
    exact sr_165 (g := g)
  · cases (show some (mb_166 g) = some b from hb)
    exact sr_166 (g := g)
  · cases (show some (mb_167 g) = some b from hb)
    exact sr_167 (g := g)
  · cases (show some (mb_168 g) = some b from hb)
    exact sr_168 (g := g)
  · cases (show some (mb_169 g) = some b from hb)
    exact sr_169 (g := g)
  · cases (show some (mb_170 g) = some b from hb)
    exact sr_170 (g := g)
  · cases (show some (mb_171 g) = some b from hb)
    exact sr_171 (g := g)
  · cases (show some (mb_172 g) = some b from hb)
    exact sr_172 (g := g)
  · cases (show some (mb_257 g) = some b from hb)
    exact sr_257 (g := g)
end SPA
end
section
/-! what cut, instruction and jump leave as it was (laid by wip/p4/fr2.py) -/
section FRB
variable {g : xe_G} {M M1 M2 : mi_H} {Y : yT}
/-- cells stay, but for instructions, and for what a code's later fields say -/
def frD (M M' : mi_H) : Prop := frC [4, 5] M M' ∧ ∀ z l, z < M.2.1 → M.1 z = some (ob 4 l) → l.length = 11 → ∃ l', M'.1 z = some (ob 4 l') ∧ l'.length = 11 ∧ l'.take 8 = l.take 8
theorem frD.rf : frD M M := ⟨frC.rf, fun z l _ h hl => ⟨l, h, hl, rfl⟩⟩
theorem frD.tr (h : frD M M1) (h' : frD M1 M2) : frD M M2 := ⟨h.1.tr h'.1, fun z l hz hc hl => by
  obtain ⟨l1, a1, a2, a3⟩ := h.2 z l hz hc hl
  obtain ⟨l2, b1, b2, b3⟩ := h'.2 z l1 (Nat.lt_of_lt_of_le hz h.1.2) a1 a2
  exact ⟨l2, b1, b2, b3.trans a3⟩⟩
theorem frD.st {a : Nat} (h : frD M M1) (ha : M.2.1 ≤ a) (hf : ∀ z, z ≠ a → M2.1 z = M1.1 z) (hz : M2.2 = M1.2) : frD M M2 :=
  ⟨⟨fun z hl hn => (hf z (by omega)).trans (h.1.1 z hl hn), by rw [hz]; exact h.1.2⟩, fun z l hl hc h9 => by
    obtain ⟨l1, b1, b2, b3⟩ := h.2 z l hl hc h9
    exact ⟨l1, (hf z (by omega)).trans b1, b2, b3⟩⟩
variable {T : Nat → Option (Nat × mi_B)} {k pc : Nat} {tb : mi_B} {lv : List (Nat × Value)} {st : List Value} {Q : Option Value → mi_H → Prop}
end FRB
end
section
/-! read, whatever is kept (laid by wip/p2/c58r.py) -/
set_option maxHeartbeats 2000000 in
theorem tq_read0 {g : xe_G} {M : mi_H} {Y : yT} {x cm fl B m n : Nat} {cc wp : Int32} {kv : Value} (hW : WF g Y M) (hx : M.1 x = some (ob 11 [.ref cm, .int cc, .ref fl, kv, .int wp])) (hxn : Y.1 x = none) (hxl : x < M.2.1) (hlit : ∀ i, i < 15 → g.2.1 i ≠ x) (hst : Y.1 g.1 = some (24, [0])) (hfl : Y.1 fl = some (24, [n])) (hnB : n ≤ B) (hB : B ≤ 65540) {d : Nat} (hd : 16 ≤ d) : mt (mT g) d 18 [.ref x] M (fun v M' => ∃ Y' kv' wp', (∃ y : Int32, v = some (.int y)) ∧ sg g Y M Y' M' (3 * n + 25) (10 * n + 64) ∧ M'.1 x = some (ob 11 [.ref cm, .int cc, .ref g.1, kv', .int wp']) ∧ (kv' = kv ∨ kvOk Y' kv' B)) := by
  obtain ⟨d, rfl⟩ : ∃ e, d = e + 1 := ⟨d - 1, by omega⟩
  refine mt_in (b := mb_18 g) rfl rfl ?_
  show ml (mT g) d (mb_18 g).2 (0, [(0, .ref x)], [], M) _
  have hS : st g Y M M := st.rf hW
  have hA := sa.rf hW
  have hW_hM2 := hS.1
  refine mm_newf (c := 0) (k := 3) (N := 17) (ds := [.null, .null, .int 0, .int 0, .int 0, .int 0, .null, .null, .int 0, .int 0, .int 0, .int 0, .int 0, .int 0, .int 0, .int 0, .int 0]) rfl hW_hM2 (fun M1 hM2 f3 => ?_)
  show ml _ _ _ (3, [(0, .ref x)], [.ref M.2.1], M1) _
  refine ml_st (S' := (4, [(0, .ref x)], [.ref M.2.1, .ref M.2.1], M1)) rfl rfl rfl ?_
  have hW_hM5 := hM2.1.1
  refine mm_newf (c := 0) (k := 1) (N := 1) (ds := [.null]) rfl hW_hM5 (fun M4 hM5 f6 => ?_)
  show ml _ _ _ (7, [(0, .ref x)], [.ref M1.2.1, .ref M.2.1, .ref M.2.1], M4) _
  refine ml_blk 2 (S' := (9, [(0, .ref x)], [.ref x, .ref M1.2.1, .ref M1.2.1, .ref M.2.1, .ref M.2.1], M4)) rfl ?_
  refine mo_get (S' := (12, [(0, .ref x)], [.ref fl, .ref M1.2.1, .ref M1.2.1, .ref M.2.1, .ref M.2.1], M4)) rfl ((hM5.1.2.2.2.2 x (Nat.lt_of_lt_of_le hxl hM2.1.2.2.2.1.1)).trans ((hM2.1.2.2.2.2 x hxl).trans hx)) rfl rfl ?_
  refine ml_call (a := [.ref M1.2.1, .ref fl]) (rest := [.ref M1.2.1, .ref M.2.1, .ref M.2.1]) rfl (okc_v rfl rfl rfl hM5.2.1) rfl rfl (tk_Bytes hW_hM5 hM5  (by omega)) (fun v7 M8 h9 => ?_)
  obtain ⟨rfl, Y10, hM11, h12⟩ := h9
  have h13 := (h12 _ _ hst).1
  have h14 := (h12 _ _ hfl).1
  refine mm_done (k := 1) (ps := [fl, n]) hM11 (okY_new (by decide) hM11.2.1 (by simp [sch]) ⟨rfl, trivial⟩ ((yadd_le hM11.2.2.1 _ _ h14).1) (show n ≤ 65540 by omega)) (fun Y15 h16 h17 h18 => ?_)
  have h19 := (h17 _ _ h13).1
  have h20 := (h17 _ _ h14).1
  have hM21 := hM2.tr h16
  show ml _ _ _ (15, [(0, .ref x)], [.ref M1.2.1, .ref M.2.1, .ref M.2.1], M8) _
  refine ml_call (a := [.ref M.2.1, .ref M1.2.1]) (rest := [.ref M.2.1]) rfl (okc_v rfl rfl rfl hM21.2.1) rfl rfl (tk_ClassFile hW_hM2 hM21 h18 (by omega)) (fun v22 M23 h24 => ?_)
  obtain ⟨rfl, Y25, h26, h27, h28⟩ := h24
  have hA29 := (hA.st hS).tr h26.sa
  have hS30 := st.rf hA29.1
  have h31 := (h27 _ _ h19).1
  have h32 := (h27 _ _ h20).1
  have h33 := (h27 _ _ h18).1
  show ml _ _ _ (18, [(0, .ref x)], [.ref M.2.1], M23) _
  refine ml_st (S' := (19, [(1, .ref M.2.1), (0, .ref x)], [], M23)) rfl rfl rfl ?_
  have hW_hM35 := hS30.1
  refine mm_newf (c := 0) (k := 10) (N := 2) (ds := [.int 0, .int 0]) rfl hW_hM35 (fun M34 hM35 f36 => ?_)
  show ml _ _ _ (22, [(1, .ref M.2.1), (0, .ref x)], [.ref M23.2.1], M34) _
  refine ml_st (S' := (23, [(1, .ref M.2.1), (0, .ref x)], [.ref M23.2.1, .ref M23.2.1], M34)) rfl rfl rfl ?_
  refine ml_call (a := [.ref M23.2.1]) (rest := [.ref M23.2.1]) rfl (okc_v rfl rfl rfl hM35.2.1) rfl rfl (tk_Verdict hW_hM35 hM35  (by omega)) (fun v37 M38 h39 => ?_)
  obtain ⟨rfl, Y40, hM41, h42⟩ := h39
  have h43 := (h42 _ _ h31).1
  have h44 := (h42 _ _ h32).1
  have h45 := (h42 _ _ h33).1
  have h46 := (h42 _ _ h28).1
  refine mm_done (k := 10) (ps := []) hM41 (okY_new (by decide) hM41.2.1 (by simp [sch]) ⟨⟨_, rfl⟩, ⟨_, rfl⟩, trivial⟩ trivial trivial) (fun Y47 h48 h49 h50 => ?_)
  have h51 := (h49 _ _ h43).1
  have h52 := (h49 _ _ h44).1
  have h53 := (h49 _ _ h45).1
  have h54 := (h49 _ _ h46).1
  have hA55 := (hA29.st hS30).tr h48.sa
  have hS56 := st.rf hA55.1
  show ml _ _ _ (26, [(1, .ref M.2.1), (0, .ref x)], [.ref M23.2.1], M38) _
  refine ml_st (S' := (27, [(2, .ref M23.2.1), (1, .ref M.2.1), (0, .ref x)], [], M38)) rfl rfl rfl ?_
  refine ml_blk 2 (S' := (31, [(2, .ref M23.2.1), (1, .ref M.2.1), (0, .ref x)], [.ref g.1, .ref x], M38)) rfl ?_
  refine gx_put (l' := [.ref cm, .int cc, .ref g.1, kv, .int wp]) rfl ((hS56.2.2 x ((hA55.2.2.1 x hxl).trans hxn)).trans ((hA55.2.2.2.2 x hxn hxl).trans hx)) rfl rfl rfl hS56.1 ((hA55.2.2.1 x hxl).trans hxn) hlit (fun M57 hs58 hc59 hm60 hf61 => ?_)
  have hG62 := ((hA55.st hS56).sg).tr hs58
  have hxn63 := (hG62.2.2.1 x hxl).trans hxn
  have hxl64 := Nat.lt_of_lt_of_le hxl hG62.2.2.2.1
  have hA65 := sa.rf hG62.1
  have hS66 := st.rf hG62.1
  show ml _ _ _ (34, [(2, .ref M23.2.1), (1, .ref M.2.1), (0, .ref x)], [], M57) _
  refine ml_blk 2 (S' := (36, [(2, .ref M23.2.1), (1, .ref M.2.1), (0, .ref x)], [.ref M23.2.1, .ref M.2.1], M57)) rfl ?_
  refine ml_call (a := [.ref M.2.1, .ref M23.2.1]) (rest := []) rfl (rfl) rfl rfl (tg_isWhole hS66.1 h54 h53 h50 (by omega)) (fun v67 M68 h69 => ?_)
  obtain ⟨Y71, ⟨u70, rfl, z73⟩, hv72⟩ := h69
  have hA74 := (hA65.st hS66).tr hv72
  have hS75 := st.rf hA74.1
  have h76 := (hv72.2.1 _ _ h51).1
  have h77 := (hv72.2.1 _ _ h52).1
  have h78 := (hv72.2.1 _ _ h53).1
  have h79 := (hv72.2.1 _ _ h54).1
  have h80 := (hv72.2.1 _ _ h50).1
  show ml _ _ _ (39, [(2, .ref M23.2.1), (1, .ref M.2.1), (0, .ref x)], [.int u70], M68) _
  refine ml_if (S1 := (55, [(0, .ref x), (2, .ref M23.2.1)], [], M68)) (S2 := (42, [(2, .ref M23.2.1), (1, .ref M.2.1), (0, .ref x)], [], M68)) rfl rfl rfl (fun c_39 => ?_) (fun c_39 => ?_)
  · have c_39 : u70 = 0 := of_decide_eq_true c_39
    refine ml_blk 2 (S' := (57, [(0, .ref x), (2, .ref M23.2.1)], [.ref M23.2.1, .ref x], M68)) rfl ?_
    refine tg_int rfl hS75.1 h80 (by decide) rfl (fun u81 g82 => ?_)
    show ml _ _ _ (60, [(0, .ref x), (2, .ref M23.2.1)], [.int u81, .ref x], M68) _
    refine gx_put (l' := [.ref cm, .int cc, .ref g.1, kv, .int u81]) rfl ((hS75.2.2 x ((hA74.2.2.1 x hxl64).trans hxn63)).trans ((hA74.2.2.2.2 x hxn63 hxl64).trans hc59)) rfl rfl rfl hS75.1 ((hA74.2.2.1 x hxl64).trans hxn63) hlit (fun M83 hs84 hc85 hm86 hf87 => ?_)
    have hG88 := (hG62.tr (hA74.st hS75).sg).tr hs84
    have hxn89 := (hG88.2.2.1 x hxl).trans hxn
    have hxl90 := Nat.lt_of_lt_of_le hxl hG88.2.2.2.1
    have hA91 := sa.rf hG88.1
    have hS92 := st.rf hG88.1
    show ml _ _ _ (63, [(0, .ref x), (2, .ref M23.2.1)], [], M83) _
    refine ml_st (S' := (64, [(0, .ref x), (2, .ref M23.2.1)], [.ref M23.2.1], M83)) rfl rfl rfl ?_
    refine tg_int rfl hS92.1 h80 (by decide) rfl (fun u93 g94 => ?_)
    show ml _ _ _ (67, [(0, .ref x), (2, .ref M23.2.1)], [.int u93], M83) _
    exact ml_ret rfl (rfl) (⟨Y71, _, _, ⟨_, rfl⟩, (hG88.tr (hA91.st hS92).sg).le (by omega) (by omega), ((hS92.2.2 x ((hA91.2.2.1 x hxl90).trans hxn89)).trans ((hA91.2.2.2.2 x hxn89 hxl90).trans hc85)), Or.inl rfl⟩)
  · have c_39 : ¬ (u70 = 0) := of_decide_eq_false c_39
    refine ml_blk 2 (S' := (44, [(2, .ref M23.2.1), (1, .ref M.2.1), (0, .ref x)], [.ref M23.2.1, .ref M.2.1], M68)) rfl ?_
    refine ml_call (a := [.ref M.2.1, .ref M23.2.1]) (rest := []) rfl (rfl) rfl rfl (tg_holds hS75.1 h79 h78 h80 (by omega)) (fun v95 M96 h97 => ?_)
    obtain ⟨Y99, ⟨u98, rfl, z101⟩, hv100⟩ := h97
    have hA102 := (hA74.st hS75).tr hv100
    have hS103 := st.rf hA102.1
    have h104 := (hv100.2.1 _ _ h76).1
    have h105 := (hv100.2.1 _ _ h77).1
    have h106 := (hv100.2.1 _ _ h78).1
    have h107 := (hv100.2.1 _ _ h79).1
    have h108 := (hv100.2.1 _ _ h80).1
    show ml _ _ _ (47, [(2, .ref M23.2.1), (1, .ref M.2.1), (0, .ref x)], [.int u98], M96) _
    refine ml_if (S1 := (55, [(0, .ref x), (2, .ref M23.2.1)], [], M96)) (S2 := (50, [(2, .ref M23.2.1), (1, .ref M.2.1), (0, .ref x)], [], M96)) rfl rfl rfl (fun c_47 => ?_) (fun c_47 => ?_)
    · have c_47 : u98 = 0 := of_decide_eq_true c_47
      refine ml_blk 2 (S' := (57, [(0, .ref x), (2, .ref M23.2.1)], [.ref M23.2.1, .ref x], M96)) rfl ?_
      refine tg_int rfl hS103.1 h108 (by decide) rfl (fun u109 g110 => ?_)
      show ml _ _ _ (60, [(0, .ref x), (2, .ref M23.2.1)], [.int u109, .ref x], M96) _
      refine gx_put (l' := [.ref cm, .int cc, .ref g.1, kv, .int u109]) rfl ((hS103.2.2 x ((hA102.2.2.1 x hxl64).trans hxn63)).trans ((hA102.2.2.2.2 x hxn63 hxl64).trans hc59)) rfl rfl rfl hS103.1 ((hA102.2.2.1 x hxl64).trans hxn63) hlit (fun M111 hs112 hc113 hm114 hf115 => ?_)
      have hG116 := (hG62.tr (hA102.st hS103).sg).tr hs112
      have hxn117 := (hG116.2.2.1 x hxl).trans hxn
      have hxl118 := Nat.lt_of_lt_of_le hxl hG116.2.2.2.1
      have hA119 := sa.rf hG116.1
      have hS120 := st.rf hG116.1
      show ml _ _ _ (63, [(0, .ref x), (2, .ref M23.2.1)], [], M111) _
      refine ml_st (S' := (64, [(0, .ref x), (2, .ref M23.2.1)], [.ref M23.2.1], M111)) rfl rfl rfl ?_
      refine tg_int rfl hS120.1 h108 (by decide) rfl (fun u121 g122 => ?_)
      show ml _ _ _ (67, [(0, .ref x), (2, .ref M23.2.1)], [.int u121], M111) _
      exact ml_ret rfl (rfl) (⟨Y99, _, _, ⟨_, rfl⟩, (hG116.tr (hA119.st hS120).sg).le (by omega) (by omega), ((hS120.2.2 x ((hA119.2.2.1 x hxl118).trans hxn117)).trans ((hA119.2.2.2.2 x hxn117 hxl118).trans hc113)), Or.inl rfl⟩)
    · have c_47 : ¬ (u98 = 0) := of_decide_eq_false c_47
      refine ml_blk 2 (S' := (52, [(2, .ref M23.2.1), (1, .ref M.2.1), (0, .ref x)], [.ref M.2.1, .ref x], M96)) rfl ?_
      refine gx_put (l' := [.ref cm, .int cc, .ref g.1, .ref M.2.1, .int wp]) rfl ((hS103.2.2 x ((hA102.2.2.1 x hxl64).trans hxn63)).trans ((hA102.2.2.2.2 x hxn63 hxl64).trans hc59)) rfl rfl rfl hS103.1 ((hA102.2.2.1 x hxl64).trans hxn63) hlit (fun M123 hs124 hc125 hm126 hf127 => ?_)
      have hG128 := (hG62.tr (hA102.st hS103).sg).tr hs124
      have hxn129 := (hG128.2.2.1 x hxl).trans hxn
      have hxl130 := Nat.lt_of_lt_of_le hxl hG128.2.2.2.1
      have hA131 := sa.rf hG128.1
      have hS132 := st.rf hG128.1
      show ml _ _ _ (55, [(0, .ref x), (2, .ref M23.2.1)], [], M123) _
      refine ml_blk 2 (S' := (57, [(0, .ref x), (2, .ref M23.2.1)], [.ref M23.2.1, .ref x], M123)) rfl ?_
      refine tg_int rfl hS132.1 h108 (by decide) rfl (fun u133 g134 => ?_)
      show ml _ _ _ (60, [(0, .ref x), (2, .ref M23.2.1)], [.int u133, .ref x], M123) _
      refine gx_put (l' := [.ref cm, .int cc, .ref g.1, .ref M.2.1, .int u133]) rfl ((hS132.2.2 x ((hA131.2.2.1 x hxl130).trans hxn129)).trans ((hA131.2.2.2.2 x hxn129 hxl130).trans hc125)) rfl rfl rfl hS132.1 ((hA131.2.2.1 x hxl130).trans hxn129) hlit (fun M135 hs136 hc137 hm138 hf139 => ?_)
      have hG140 := (hG128.tr (hA131.st hS132).sg).tr hs136
      have hxn141 := (hG140.2.2.1 x hxl).trans hxn
      have hxl142 := Nat.lt_of_lt_of_le hxl hG140.2.2.2.1
      have hA143 := sa.rf hG140.1
      have hS144 := st.rf hG140.1
      show ml _ _ _ (63, [(0, .ref x), (2, .ref M23.2.1)], [], M135) _
      refine ml_st (S' := (64, [(0, .ref x), (2, .ref M23.2.1)], [.ref M23.2.1], M135)) rfl rfl rfl ?_
      refine tg_int rfl hS144.1 h108 (by decide) rfl (fun u145 g146 => ?_)
      show ml _ _ _ (67, [(0, .ref x), (2, .ref M23.2.1)], [.int u145], M135) _
      exact ml_ret rfl (rfl) (⟨Y99, _, _, ⟨_, rfl⟩, (hG140.tr (hA143.st hS144).sg).le (by omega) (by omega), ((hS144.2.2 x ((hA143.2.2.1 x hxl142).trans hxn141)).trans ((hA143.2.2.2.2 x hxn141 hxl142).trans hc137)), Or.inr (Or.inr ⟨_, _, _, _, rfl, h107, hnB⟩)⟩)
end
section
/-! all fields, all methods; their rows stay (laid by wip/p4/d27.py) -/
end
section
/-! names of members stay (laid by wip/p4/e27.py) -/
end
