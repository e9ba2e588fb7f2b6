section
/-! the pool's view, all checks, the whole file, read (laid by wip/p4/d17.py) -/
section PWA
variable {g : xe_G} {M M' : mi_H}
theorem LT.keep {S : List Nat} (h : LT g M) (hf : gm S M M') (hs : n7 S M) : LT g M' :=
  h.move hf.2 (fun z o hl hc ho => hf.1 z hl (fun hz => by
    obtain ⟨ci, l, e, h2⟩ := hs z hz
    have e2 : o.1 = ci := by
      rw [hc] at e
      simp only [ob, Option.some.injEq, Sum.inr.injEq] at e
      rw [e]
    omega))
theorem LT.put {a ci : Nat} {l : List Value} (h : LT g M) (ha : M.1 a = some (ob ci l)) (hc : ¬ ci = 7 ∧ ci < 100) (hf : ∀ z, z ≠ a → M'.1 z = M.1 z) (hz : M'.2 = M.2) : LT g M' :=
  h.keep (S := [a]) ⟨fun z _ h9 => hf z (fun e => h9 (by rw [e]; exact List.mem_cons_self)), by rw [hz]; exact Nat.le_refl _⟩ (n7c ha hc n7nil)
theorem LT.new {a : Nat} (h : LT g M) (ht : M.2.1 = a) (hf : ∀ z, z ≠ a → M'.1 z = M.1 z) (hz : M'.2.1 = a + 1) : LT g M' :=
  h.keep (S := []) ⟨fun z hl _ => hf z (by omega), by omega⟩ n7nil
theorem LT.keepX {a k : Nat} {ty : FieldType} {G : Nat → Int32} (h : LT g M) (hf : gm [a] M M') (ha : M.1 a = some (ar ty k G)) : LT g M' :=
  h.move hf.2 (fun z o hl hc ho => hf.1 z hl (fun hz => by
    have : z = a := by simpa using hz
    rw [this, ha] at hc
    cases hc))
theorem MV.keepX {f : Nat → Int32} {B : List Nat} {mm k a j : Nat} {G : Nat → Nat} {ty : FieldType} {F : Nat → Int32} (h : MV f B mm G k M) (hf : gm [a] M M') (ha : M.1 a = some (ar ty j F)) (ht : ¬ ty = .object "ClassGate$Member") : MV f B mm G k M' := by
  obtain ⟨R, hR, -⟩ := h.2.1
  refine h.move hf.2 (fun C n R' e => hf.1 mm h.1 (fun hz => ?_)) (fun i hi x1 x2 x3 x4 v e => ⟨x1, x2, x3, x4, v, (hf.1 _ (h.2.2.2 i hi).1 (fun hz => ?_)).trans e, fun _ => ⟨rfl, rfl, rfl, rfl, rfl⟩⟩)
  · have h1 : mm = a := by simpa using hz
    exact ar_ro ha hR ht h1.symm
  · have h1 : G i = a := by simpa using hz
    rw [h1, ha] at e
    cases e
/-- the pool as it was read, ahead of its texts' shapes -/
def PW (g : xe_G) (f : Nat → Int32) (n N : Nat) (E : List (Nat × Nat)) (q : Nat) (M : mi_H) : Prop :=
  LT g M ∧ ∃ (H m : Nat) (qq : Nat → Nat) (F : Nat → Nat → Int32) (cc : Int32), PL M q (nI N) H m qq F cc ∧ txt H m F cc ∧ (q < M.2.1 ∧ ∀ i, 1 ≤ i → i ≤ 6 → qq i < M.2.1) ∧ (H ≤ 65536 ∧ m ≤ 65540 ∧ N < 65536 ∧ cc = nI (chL f n E)) ∧ VF f n E H m F ∧ (∀ i, 1 ≤ i → i ≤ 4 → ¬ qq i = qq 5)
theorem PW.qlt {f : Nat → Int32} {n N q : Nat} {E : List (Nat × Nat)} (h : PW g f n N E q M) : q < M.2.1 := by
  obtain ⟨-, H, m, qq, F, cc, -, -, hB, -⟩ := h
  exact hB.1
theorem PW.move {f : Nat → Int32} {n N q : Nat} {E : List (Nat × Nat)} (h : PW g f n N E q M) (hz : M.2.1 ≤ M'.2.1) (hm : ∀ z, z < M.2.1 → (∀ ci l, M.1 z = some (ob ci l) → ci = 7 ∨ 100 ≤ ci) → (∀ o, M.1 z = some (.inr o) → o.1 = 7 ∨ 100 ≤ o.1) → M'.1 z = M.1 z) : PW g f n N E q M' := by
  obtain ⟨hL, H, m, qq, F, cc, ⟨a0, a1, a6⟩, hT, ⟨b0, b1⟩, h3⟩ := h
  have ha : ∀ {z n : Nat} {ty : FieldType} {F : Nat → Int32}, z < M.2.1 → M.1 z = some (ar ty n F) → M'.1 z = some (ar ty n F) := fun hl hc => (hm _ hl (fun ci l h9 => by rw [hc] at h9; cases h9) (fun o h9 => by rw [hc] at h9; cases h9)).trans hc
  have h7 : M'.1 q = M.1 q := hm q b0 (fun ci l h9 => by rw [a0] at h9; simp only [ob, Option.some.injEq, Sum.inr.injEq, Prod.mk.injEq] at h9; exact Or.inl h9.1.symm) (fun o h9 => by rw [a0] at h9; cases h9; exact Or.inl rfl)
  exact ⟨hL.move hz (fun z o hl hc ho => hm z hl (fun ci l h9 => by rw [hc] at h9; cases h9; exact Or.inr ho) (fun o' h9 => by rw [hc] at h9; cases h9; exact Or.inr ho)), H, m, qq, F, cc, ⟨h7.trans a0, fun i h1 h2 => ha (b1 i h1 (by omega)) (a1 i h1 h2), ha (b1 6 (by decide) (by decide)) a6⟩, hT, ⟨by omega, fun i h1 h2 => Nat.lt_of_lt_of_le (b1 i h1 h2) hz⟩, h3⟩
theorem PW.keep {f : Nat → Int32} {n N q : Nat} {E : List (Nat × Nat)} {S : List Nat} (h : PW g f n N E q M) (hf : gm S M M') (hs : n7 S M) : PW g f n N E q M' :=
  h.move hf.2 (fun z hl h1 _ => hf.1 z hl (fun hz => by
    obtain ⟨ci, l, e, h2⟩ := hs z hz
    rcases h1 ci l e with h3 | h3 <;> omega))
theorem PW.put {f : Nat → Int32} {n N q a ci : Nat} {l : List Value} {E : List (Nat × Nat)} (h : PW g f n N E q M) (ha : M.1 a = some (ob ci l)) (hc : ¬ ci = 7 ∧ ci < 100) (hf : ∀ z, z ≠ a → M'.1 z = M.1 z) (hz : M'.2 = M.2) : PW g f n N E q M' :=
  h.move (by rw [hz]; exact Nat.le_refl _) (fun z hl h1 _ => hf z (fun e => by
    subst e
    rcases h1 ci l ha with h3 | h3 <;> omega))
theorem PW.new {f : Nat → Int32} {n N q a : Nat} {E : List (Nat × Nat)} (h : PW g f n N E q M) (ht : M.2.1 = a) (hf : ∀ z, z ≠ a → M'.1 z = M.1 z) (hz : M'.2.1 = a + 1) : PW g f n N E q M' :=
  h.move (by omega) (fun z hl _ _ => hf z (by omega))
theorem PL5 {q H m : Nat} {sz cc : Int32} {qq : Nat → Nat} {F : Nat → Nat → Int32} {G : Nat → Int32} (h0 : M.1 q = some (ob 7 [.int sz, .ref (qq 1), .ref (qq 2), .ref (qq 3), .ref (qq 4), .ref (qq 5), .ref (qq 6), .int cc])) (h1 : M.1 (qq 1) = some (ar .int H (F 1))) (h2 : M.1 (qq 2) = some (ar .int H (F 2))) (h3 : M.1 (qq 3) = some (ar .int H (F 3))) (h4 : M.1 (qq 4) = some (ar .int H (F 4))) (h5 : M.1 (qq 5) = some (ar .int H G)) (h6 : M.1 (qq 6) = some (ar .char m (F 6))) : PL M q sz H m qq (fun i => if i = 5 then G else F i) cc := by
  refine ⟨h0, fun i a b => ?_, h6⟩
  have hi : i = 1 ∨ i = 2 ∨ i = 3 ∨ i = 4 ∨ i = 5 := by omega
  rcases hi with rfl | rfl | rfl | rfl | rfl
  · exact h1
  · exact h2
  · exact h3
  · exact h4
  · exact h5
theorem upd_shk {G : Nat → Int32} {k j : Nat} {x : Int32} (h : k < 1073741824) : upd G (Int32.toNatClampNeg (nI k)) x j = if j = k then x else G j := by
  rw [nI_toNat h]
  rfl
theorem PV_of {f : Nat → Int32} {n N q H m : Nat} {E : List (Nat × Nat)} {qq : Nat → Nat} {F : Nat → Nat → Int32} {G : Nat → Int32} {cc : Int32} (hL : LT g M') (hP : PL M' q (nI N) H m qq (fun i => if i = 5 then G else F i) cc) (hT : txt H m F cc) (hB : q < M.2.1 ∧ ∀ i, 1 ≤ i → i ≤ 6 → qq i < M.2.1) (hz : M'.2 = M.2) (hb : H ≤ 65536 ∧ m ≤ 65540 ∧ N < 65536 ∧ cc = nI (chL f n E)) (hF : VF f n E H m F) (hs : ∀ j, j < H → tg f E j = 1 → G j = shI (shN (tX f n E j))) : PV g f n N E q M' := by
  refine ⟨hL, H, m, qq, _, cc, hP, hT, by rw [hz]; exact hB, hb, hF, fun j hj => ?_⟩
  show G j = _
  refine hs j (Nat.not_le.mp (fun h9 => ?_)) hj
  rw [hF.2.1 j h9] at hj
  cases hj
end PWA
section PWB
theorem s_entry_le {f : Nat → Int32} {n mj N k p p' : Nat} {x : (List Nat) ⊕ (Option (Nat × Nat))} (h : s_entry f n mj N k p = .inr (p', x)) : p + 1 ≤ n ∧ p + 3 ≤ p' ∧ (by1 f p = 5 ∨ by1 f p = 6 → p + 9 ≤ p') := by
  have h0 : p + 1 ≤ n := by
    unfold s_entry at h
    split at h
    · cases h
    · omega
  refine ⟨h0, ?_⟩
  rcases x with l | o
  · obtain ⟨h1, h2, h3⟩ := s_entry_txt h
    omega
  · cases o with
    | none =>
      have h1 := s_entry_pl h
      omega
    | some xy =>
      obtain ⟨a, b⟩ := xy
      obtain ⟨h1, h2⟩ := s_entry_ix h
      have h3 := s_ix_le h1
      omega
theorem s_ents_k {f : Nat → Int32} {n mj N : Nat} : ∀ {r k p p' : Nat} {E0 E : List (Nat × Nat)}, 1 ≤ k ∧ 7 + 3 * k ≤ p → (∀ q ∈ E0, q.1 < N ∧ q.1 < n / 3 + 1) → s_ents f n mj N r k p E0 = .inr (p', E) → ∀ q ∈ E, q.1 < N ∧ q.1 < n / 3 + 1 := by
  intro r
  induction r with
  | zero => intro k p p' E0 E hk h0 h; cases h; exact h0
  | succ r ih =>
    intro k p p' E0 E hk h0 h
    unfold s_ents at h
    split at h
    · cases h; exact h0
    · rename_i hN
      cases he : s_entry f n mj N k p with
      | inl e => rw [he] at h; cases h
      | inr y =>
        obtain ⟨p2, x⟩ := y
        rw [he] at h
        have h1 := s_entry_le he
        refine ih (k := if by1 f p = 5 ∨ by1 f p = 6 then k + 2 else k + 1) ?_ ?_ h
        · split <;> omega
        · intro q hq
          rcases List.mem_append.mp hq with hq | hq
          · exact h0 q hq
          · have e : q = (k, p) := by simpa using hq
            rw [e]
            show k < N ∧ k < n / 3 + 1
            omega
theorem s_pool_k {f : Nat → Int32} {n mj p' : Nat} {E : List (Nat × Nat)} (h : s_pool f n mj = .inr (p', E)) : ∀ q ∈ E, q.1 < hldC f n := by
  unfold s_pool at h
  split at h
  · cases h
  · split at h
    · cases h
    · intro q hq
      have h1 := s_ents_k (by omega) (fun q hq => by cases hq) h q hq
      unfold hldC
      omega
theorem s_ix_v {f : Nat → Int32} {n p p' x y : Nat} (h : s_ix f n (by1 f p) (p + 1) = .inr (p', x, y)) (h7 : 7 ≤ by1 f p) : x = ixa f p ∧ y = ixb f p := by
  unfold s_ix at h
  unfold ixa ixb
  have e7 : ¬ by1 f p < 7 := by omega
  rw [if_neg e7, if_neg e7]
  split at h
  · rename_i h1
    rw [if_pos h1, if_pos h1]
    split at h
    · cases h
    · split at h
      · cases h
      · cases h
        exact ⟨rfl, rfl⟩
  · rename_i h1
    rw [if_neg h1, if_neg h1]
    split at h
    · cases h
    · split at h
      · rename_i h2
        rw [if_pos h2]
        cases h
        exact ⟨rfl, rfl⟩
      · rename_i h2
        rw [if_neg h2]
        split at h
        · cases h
        · cases h
          exact ⟨rfl, rfl⟩
def Fp (F1 F2 F3 F4 F6 : Nat → Int32) : Nat → Nat → Int32 := fun i => if i = 1 then F1 else if i = 2 then F2 else if i = 3 then F3 else if i = 4 then F4 else if i = 6 then F6 else fun _ => 0
theorem PW_of {g : xe_G} {M : mi_H} {f : Nat → Int32} {n mj q p' cc : Nat} {E : List (Nat × Nat)} {F1 F2 F3 F4 F6 : Nat → Int32} (hL : LT g M) (hn : n ≤ 65540) (hs : s_pool f n mj = .inr (p', E)) (hc : poolC f n F1 F2 F3 F4 F6 cc (by2 f 8) E) (he : p' ≤ n ∧ cc ≤ p' ∧ 10 ≤ n) (hcs : cc = chL f n E)
    (h0 : M.1 q = some (ob 7 [.int (nI (by2 f 8)), .ref (q + 1), .ref (q + 2), .ref (q + 3), .ref (q + 4), .ref (q + 5), .ref (q + 6), .int (nI cc)])) (h1 : M.1 (q + 1) = some (ar .int (hldC f n) F1)) (h2 : M.1 (q + 2) = some (ar .int (hldC f n) F2)) (h3 : M.1 (q + 3) = some (ar .int (hldC f n) F3)) (h4 : M.1 (q + 4) = some (ar .int (hldC f n) F4)) (h5 : M.1 (q + 5) = some (ar .int (hldC f n) (fun _ => 0))) (h6 : M.1 (q + 6) = some (ar .char n F6)) (hq : q + 6 < M.2.1) : PW g f n (by2 f 8) E q M := by
  have hu := by2_lt f 8
  have hH : hldC f n ≤ 65536 := by unfold hldC; omega
  have t1 : ∀ j, F1 j = nI (tg f E j) := fun j => by
    unfold tg
    cases hk : lk E j with
    | none => exact hc.2 j (lk_no hk)
    | some p => exact (hc.1 _ (lk_in hk)).2.1
  have t5 : ∀ j, tg f E j = 1 → ∃ c, F3 j = nI c ∧ F4 j = nI (tX f n E j).length ∧ c + (tX f n E j).length ≤ cc ∧ ∀ i, i < (tX f n E j).length → F6 (c + i) = nI ((tX f n E j).getD i 0) := fun j hj => by
    unfold tg at hj
    unfold tX
    cases hk : lk E j with
    | none => rw [hk] at hj; cases hj
    | some p =>
      rw [hk] at hj
      dsimp only at hj ⊢
      rw [if_pos hj]
      obtain ⟨l, c, e1, e2, e3, e4, e5⟩ := (hc.1 _ (lk_in hk)).2.2.2.1 hj
      rw [e1]
      exact ⟨c, e2, e3, e4, e5⟩
  refine ⟨hL, hldC f n, n, fun i => q + i, Fp F1 F2 F3 F4 F6, nI cc, ⟨h0, fun i a b => ?_, h6⟩, ?_, ⟨by omega, fun i a b => by show q + i < M.2.1; omega⟩, ⟨hH, hn, hu, by rw [hcs]⟩, ⟨t1, fun j hj => ?_, fun j p hp => ?_, fun j hj => ?_, fun j hj => ?_⟩, fun i a b e => ?_⟩
  · have hi : i = 1 ∨ i = 2 ∨ i = 3 ∨ i = 4 ∨ i = 5 := by omega
    rcases hi with rfl | rfl | rfl | rfl | rfl
    · exact h1
    · exact h2
    · exact h3
    · exact h4
    · exact h5
  · refine ⟨by rw [nI_val (by omega)]; omega, by rw [nI_val (by omega)]; omega, fun k hk e1 => ?_⟩
    have e2 : F1 k = 1 := e1
    rw [t1 k] at e2
    have ht := tg_lt f E k
    have e3 : tg f E k = 1 := (eq_nI (p := tg f E k) (n := 1) (by omega) (by decide)).mp e2
    obtain ⟨c, a1, a2, a3, -⟩ := t5 k e3
    show 0 ≤ (F3 k).toInt ∧ 0 ≤ (F4 k).toInt ∧ (F3 k).toInt + (F4 k).toInt ≤ (nI cc).toInt
    rw [a1, a2, nI_val (by omega), nI_val (by omega), nI_val (by omega)]
    omega
  · unfold tg
    cases hk : lk E j with
    | none => rfl
    | some p =>
      have := s_pool_k hs _ (lk_in hk)
      exact absurd this (by show ¬ j < hldC f n; omega)
  · exact (hc.1 _ (lk_in hp)).2.2.1
  · show F3 j = _ ∧ F4 j = _
    unfold tg at hj
    unfold fi se
    cases hk : lk E j with
    | none => rw [hk] at hj; exact absurd hj (by show ¬ 7 ≤ 0; decide)
    | some p =>
      rw [hk] at hj
      dsimp only at hj ⊢
      obtain ⟨p2, x, y, e1, e2, e3⟩ := (hc.1 _ (lk_in hk)).2.2.2.2 hj
      obtain ⟨rfl, rfl⟩ := s_ix_v e1 hj
      exact ⟨e2, e3⟩
  · obtain ⟨c, a1, a2, a3, a4⟩ := t5 j hj
    exact ⟨c, a1, a2, by omega, a4⟩
  · have : q + i = q + 5 := e
    omega
theorem s_head_8 {f : Nat → Int32} {n : Nat} (h : s_head f n = (0, 0)) : 8 ≤ n := by
  unfold s_head at h
  repeat' split at h
  all_goals first | omega | (simp at h; done)
theorem s_two_in {n : Nat} : ∀ {c p x : Nat}, s_two n c p = .inr x → x = p + 2 * c ∧ (p ≤ n → x ≤ n) := by
  intro c
  induction c with
  | zero => intro p x h; cases h; omega
  | succ c ih =>
    intro p x h
    unfold s_two at h
    split at h
    · cases h
    · have := ih h
      omega
theorem s_class_in {f : Nat → Int32} {n p x : Nat} (h : s_class f n p = .inr x) : p + 8 + 2 * by2 f (p + 6) ≤ n ∧ x = p + 8 + 2 * by2 f (p + 6) := by
  unfold s_class at h
  split at h
  · cases h
  · split at h
    · cases h
    · split at h
      · cases h
      · split at h
        · cases h
        · have := s_two_in h
          omega
theorem s_mems_le {f : Nat → Int32} {n : Nat} : ∀ {c p x : Nat}, p ≤ n → s_mems f n c p = .inr x → p ≤ x ∧ x ≤ n := by
  intro c
  induction c with
  | zero => intro p x hp h; cases h; omega
  | succ c ih =>
    intro p x hp h
    unfold s_mems at h
    split at h
    · cases h
    · split at h
      · cases h
      · split at h
        · cases h
        · cases ha : s_attributes f n (p + 6) with
          | inl e => rw [ha] at h; cases h
          | inr y =>
            rw [ha] at h
            have h1 := s_attributes_le2 ha
            have h2 := ih (by omega) h
            omega
theorem s_mbs_le {f : Nat → Int32} {n p x : Nat} (h : s_mbs f n p = .inr x) : p + 2 ≤ x ∧ x ≤ n := by
  unfold s_mbs at h
  split at h
  · cases h
  · have := s_mems_le (by omega) h
    omega
theorem mbs_of {f : Nat → Int32} {n p x : Nat} (h : s_mbs f n p = .inr x) : (mbs f n (by2 f p) (p + 2)).length = by2 f p ∧ ∀ i, i < (mbs f n (by2 f p) (p + 2)).length → (mbs f n (by2 f p) (p + 2)).getD i 0 + 8 ≤ n ∧ ∃ e0, s_atts f n (by2 f ((mbs f n (by2 f p) (p + 2)).getD i 0 + 6)) ((mbs f n (by2 f p) (p + 2)).getD i 0 + 8) = .inr e0 := by
  unfold s_mbs at h
  split at h
  · cases h
  · exact mbs_in h
theorem s_atts_of {f : Nat → Int32} {n p x : Nat} (h : s_attributes f n p = .inr x) : p + 2 ≤ n ∧ s_atts f n (by2 f p) (p + 2) = .inr x := by
  unfold s_attributes at h
  split at h
  · cases h
  · exact ⟨by omega, h⟩
end PWB
section PWC
variable (f : Nat → Int32) (n : Nat)
def s_chk (N : Nat) (E : List (Nat × Nat)) (mj fa ic : Nat) (B1 B2 : List Nat) (na pa : Nat) : Option (Nat × Nat) :=
  match chkP f n E mj (N - 1) 1 with
  | some e => some e
  | none => match hdS f n E fa with
    | some e => some e
    | none => match ifS f n E (fa + 8) ic 0 with
      | some e => some e
      | none => match flS f n E (by2 f fa) B1 B1.length 0 with
        | some e => some e
        | none => match mtS f n E (by2 f fa) mj B2 B2.length 0 with
          | some e => some e
          | none => match clS f n E (by2 f fa) mj na pa 0 0 with
            | .inl e => some e
            | .inr bc => chkB f E bc (N - 1) 1
def s_whole : (Nat × Nat) ⊕ (List (Nat × Nat) × Nat × Nat × Nat × Nat) :=
  if ¬ (s_head f n).1 = 0 then .inl (s_head f n) else match s_pool f n (by2 f 6) with
  | .inl e => .inl e
  | .inr (p1, E) => match s_class f n p1 with
    | .inl e => .inl e
    | .inr pF => match s_mbs f n pF with
      | .inl e => .inl e
      | .inr pM => match s_mbs f n pM with
        | .inl e => .inl e
        | .inr pA => match s_end f n pA with
          | some e => .inl e
          | none => .inr (E, p1, pF, pM, pA)
/-- the rule that a file breaks, with its place; none: it is kept -/
def s_read : Option (Nat × Nat) := match s_whole f n with
  | .inl e => some e
  | .inr (E, p1, pF, pM, pA) => s_chk f n (by2 f 8) E (by2 f 6) p1 (by2 f (p1 + 6)) (mbs f n (by2 f pF) (pF + 2)) (mbs f n (by2 f pM) (pM + 2)) (by2 f pA) (pA + 2)
end PWC
def rdR (o : Option (Nat × Nat)) : Int32 := match o with
  | none => 0
  | some e => nI e.1
def rdP (o : Option (Nat × Nat)) : Int32 := match o with
  | none => -1
  | some e => nI e.2
theorem s_read_1 {f : Nat → Int32} {n : Nat} {e : Nat × Nat} (h : s_whole f n = .inl e) : s_read f n = some e := by
  unfold s_read
  rw [h]
theorem s_read_2 {f : Nat → Int32} {n p1 pF pM pA : Nat} {E : List (Nat × Nat)} {o : Option (Nat × Nat)} (h : s_whole f n = .inr (E, p1, pF, pM, pA)) (h2 : s_chk f n (by2 f 8) E (by2 f 6) p1 (by2 f (p1 + 6)) (mbs f n (by2 f pF) (pF + 2)) (mbs f n (by2 f pM) (pM + 2)) (by2 f pA) (pA + 2) = o) : s_read f n = o := by
  unfold s_read
  rw [h]
  exact h2
theorem dk_takesHead {g : xe_G} {M : mi_H} {r c b vd da n : Nat} {f : Nat → Int32} {it ru wa mi ma fa ic ac aa k1 k2 k3 k4 k5 k6 k7 : Int32} {u1 u6 u7 : Value} (h_r : M.1 r = some (ob 9 [.ref c, .ref b, .ref vd, .int (nI 0), .int it])) (h_b : M.1 b = some (ob 1 [.ref da])) (h_da : M.1 da = some (ar .byte n f)) (h_vd : M.1 vd = some (ob 10 [.int ru, .int wa])) (h_c : M.1 c = some (ob 3 [.ref b, u1, .int mi, .int ma, .int fa, .int ic, u6, u7, .int ac, .int aa, .int k1, .int k2, .int k3, .int k4, .int k5, .int k6, .int k7])) (hn : n ≤ 65540) : pt (mT g) 165 [.ref r] M (fun v M' => ((s_head f n = (0, 0)) ∧ v = some (.int 1) ∧ M'.1 r = some (ob 9 [.ref c, .ref b, .ref vd, .int (nI 8), .int (nI (by2 f 6))]) ∧ M'.1 vd = some (ob 10 [.int ru, .int wa]) ∧ M'.1 c = some (ob 3 [.ref b, u1, .int (nI (by2 f 4)), .int (nI (by2 f 6)), .int fa, .int ic, u6, u7, .int ac, .int aa, .int k1, .int k2, .int k3, .int k4, .int k5, .int k6, .int k7]) ∧ fm [r, vd, c] M M') ∨ (∃ (e1 e2 : Nat), (s_head f n = (e1, e2)) ∧ (¬ e1 = 0) ∧ v = some (.int 0) ∧ M'.1 vd = some (ob 10 [.int (nI e1), .int (nI e2)]) ∧ fm [r, vd, c] M M')) := dx_takesHead h_r h_b h_da h_vd h_c hn
theorem dk_takesPool {g : xe_G} {M : mi_H} {r c b vd da n mj : Nat} {f : Nat → Int32} {it ru wa mi fa ic ac aa k1 k2 k3 k4 k5 k6 k7 : Int32} {u1 u6 u7 : Value} (h_r : M.1 r = some (ob 9 [.ref c, .ref b, .ref vd, .int (nI 8), .int it])) (h_b : M.1 b = some (ob 1 [.ref da])) (h_da : M.1 da = some (ar .byte n f)) (h_vd : M.1 vd = some (ob 10 [.int ru, .int wa])) (h_c : M.1 c = some (ob 3 [.ref b, u1, .int mi, .int (nI mj), .int fa, .int ic, u6, u7, .int ac, .int aa, .int k1, .int k2, .int k3, .int k4, .int k5, .int k6, .int k7])) (hn : n ≤ 65540) (h8 : 8 ≤ n) (hj : mj < 65536) (l_r : r < M.2.1) (l_b : b < M.2.1) (l_da : da < M.2.1) (l_vd : vd < M.2.1) (l_c : c < M.2.1) : pt (mT g) 169 [.ref r] M (fun v M' => (∃ (p' cc : Nat) (it' : Int32) (E : List (Nat × Nat)) (F1 F2 F3 F4 F6 : Nat → Int32), (s_pool f n mj = .inr (p', E)) ∧ (poolC f n F1 F2 F3 F4 F6 cc (by2 f 8) E) ∧ (p' ≤ n ∧ cc ≤ p' ∧ 10 ≤ n) ∧ (cc = chL f n E) ∧ v = some (.int 1) ∧ M'.1 r = some (ob 9 [.ref c, .ref b, .ref vd, .int (nI p'), .int it']) ∧ M'.1 vd = some (ob 10 [.int ru, .int wa]) ∧ M'.1 c = some (ob 3 [.ref b, .ref (M.2.1), .int mi, .int (nI mj), .int fa, .int ic, u6, u7, .int ac, .int aa, .int k1, .int k2, .int k3, .int k4, .int k5, .int k6, .int k7]) ∧ M'.1 (M.2.1) = some (ob 7 [.int (nI (by2 f 8)), .ref (M.2.1 + 1), .ref (M.2.1 + 2), .ref (M.2.1 + 3), .ref (M.2.1 + 4), .ref (M.2.1 + 5), .ref (M.2.1 + 6), .int (nI cc)]) ∧ M'.1 (M.2.1 + 1) = some (ar .int (hldC f n) F1) ∧ M'.1 (M.2.1 + 2) = some (ar .int (hldC f n) F2) ∧ M'.1 (M.2.1 + 3) = some (ar .int (hldC f n) F3) ∧ M'.1 (M.2.1 + 4) = some (ar .int (hldC f n) F4) ∧ M'.1 (M.2.1 + 5) = some (ar .int (hldC f n) (fun _ => 0)) ∧ M'.1 (M.2.1 + 6) = some (ar .char n F6) ∧ gm [r, vd, c] M M' ∧ M'.2.1 = M.2.1 + 7) ∨ (∃ (e : Nat × Nat), (s_pool f n mj = .inl e) ∧ v = some (.int 0) ∧ M'.1 vd = some (ob 10 [.int (nI e.1), .int (nI e.2)]) ∧ gm [r, vd, c] M M' ∧ M.2.1 ≤ M'.2.1)) := dx_takesPool h_r h_b h_da h_vd h_c hn h8 hj l_r l_b l_da l_vd l_c
theorem dk_takesClass {g : xe_G} {M : mi_H} {r c b vd da n p q : Nat} {f : Nat → Int32} {it ru wa mi ma fa ic ac aa k1 k2 k3 k4 k5 k6 k7 : Int32} {u6 u7 : Value} (h_r : M.1 r = some (ob 9 [.ref c, .ref b, .ref vd, .int (nI p), .int it])) (h_b : M.1 b = some (ob 1 [.ref da])) (h_da : M.1 da = some (ar .byte n f)) (h_vd : M.1 vd = some (ob 10 [.int ru, .int wa])) (h_c : M.1 c = some (ob 3 [.ref b, .ref q, .int mi, .int ma, .int fa, .int ic, u6, u7, .int ac, .int aa, .int k1, .int k2, .int k3, .int k4, .int k5, .int k6, .int k7])) (hn : n ≤ 65540) (hp : p ≤ n) : pt (mT g) 161 [.ref r] M (fun v M' => (∃ (p' : Nat) (it' : Int32), (s_class f n p = .inr p') ∧ v = some (.int 1) ∧ M'.1 r = some (ob 9 [.ref c, .ref b, .ref vd, .int (nI p'), .int it']) ∧ M'.1 vd = some (ob 10 [.int ru, .int wa]) ∧ M'.1 c = some (ob 3 [.ref b, .ref q, .int mi, .int ma, .int (nI p), .int (nI (by2 f (p + 6))), u6, u7, .int ac, .int aa, .int k1, .int k2, .int k3, .int k4, .int k5, .int k6, .int k7]) ∧ fm [r, vd, c] M M') ∨ (∃ (e : Nat × Nat), (s_class f n p = .inl e) ∧ v = some (.int 0) ∧ M'.1 vd = some (ob 10 [.int (nI e.1), .int (nI e.2)]) ∧ fm [r, vd, c] M M')) := dx_takesClass h_r h_b h_da h_vd h_c hn hp
theorem dk_pool {g : xe_G} {M : mi_H} {pq N n : Nat} (h_pq : M.1 pq = some (ob 7 [.int 0, .null, .null, .null, .null, .null, .null, .int 0])) (hq : pq < M.2.1) (hN : N < 65536) (hn : n ≤ 65540) : pt (mT g) 110 [.ref pq, .int (nI N), .int (nI n)] M (fun v M' => (v = none ∧ M'.1 pq = some (ob 7 [.int (nI N), .ref (M.2.1), .ref (M.2.1 + 1), .ref (M.2.1 + 2), .ref (M.2.1 + 3), .ref (M.2.1 + 4), .ref (M.2.1 + 5), .int 0]) ∧ M'.1 (M.2.1) = some (ar .int (min N (n / 3 + 1)) (fun _ => 0)) ∧ M'.1 (M.2.1 + 1) = some (ar .int (min N (n / 3 + 1)) (fun _ => 0)) ∧ M'.1 (M.2.1 + 2) = some (ar .int (min N (n / 3 + 1)) (fun _ => 0)) ∧ M'.1 (M.2.1 + 3) = some (ar .int (min N (n / 3 + 1)) (fun _ => 0)) ∧ M'.1 (M.2.1 + 4) = some (ar .int (min N (n / 3 + 1)) (fun _ => 0)) ∧ M'.1 (M.2.1 + 5) = some (ar .char n (fun _ => 0)) ∧ gm [pq] M M' ∧ M'.2.1 = M.2.1 + 6)) := dx_pool h_pq hq hN hn
set_option maxHeartbeats 1000000 in
theorem dk_describeTexts {g : xe_G} {M : mi_H} {f : Nat → Int32} {n N H m q : Nat} {E : List (Nat × Nat)} {qq : Nat → Nat} {F : Nat → Nat → Int32} {cc : Int32} (h_q : M.1 q = some (ob 7 [.int (nI N), .ref (qq 1), .ref (qq 2), .ref (qq 3), .ref (qq 4), .ref (qq 5), .ref (qq 6), .int cc])) (h_qq_1 : M.1 (qq 1) = some (ar .int H (F 1))) (h_qq_2 : M.1 (qq 2) = some (ar .int H (F 2))) (h_qq_3 : M.1 (qq 3) = some (ar .int H (F 3))) (h_qq_4 : M.1 (qq 4) = some (ar .int H (F 4))) (h_qq_5 : M.1 (qq 5) = some (ar .int H (F 5))) (h_qq_6 : M.1 (qq 6) = some (ar .char m (F 6))) (hH : H ≤ 65536 ∧ m ≤ 65540) (hVF : VF f n E H m F) (hD : ∀ i, 1 ≤ i → i ≤ 4 → ¬ qq i = qq 5) : pt (mT g) 114 [.ref q] M (fun v M' => (∃ (G5 : Nat → Int32), (∀ j, j < H → tg f E j = 1 → G5 j = shI (shN (tX f n E j))) ∧ v = none ∧ M'.1 (qq 5) = some (ar .int H G5) ∧ fm [qq 5] M M')) := by
  refine pt_in (b := mb_114 g) rfl (fun kf => ?_)
  show pl (mT g) kf (mb_114 g).2 (0, [(0, .ref q)], [], M) _
  have hF : fm [qq 5] M M := fm.rf
  have LL : ∀ (kf : Nat), (∀ (k : Nat) (G : Nat → Int32) (M1 : mi_H), (M1.1 q = some (ob 7 [.int (nI N), .ref (qq 1), .ref (qq 2), .ref (qq 3), .ref (qq 4), .ref (qq 5), .ref (qq 6), .int cc])) → (M1.1 (qq 1) = some (ar .int H (F 1))) → (M1.1 (qq 2) = some (ar .int H (F 2))) → (M1.1 (qq 3) = some (ar .int H (F 3))) → (M1.1 (qq 4) = some (ar .int H (F 4))) → (M1.1 (qq 5) = some (ar .int H G)) → (M1.1 (qq 6) = some (ar .char m (F 6))) → (fm [qq 5] M M1) → (k ≤ H) → (∀ j, j < k → tg f E j = 1 → G j = shI (shN (tX f n E j))) →  pl (mT g) kf (mb_114 g).2 (2, [(0, .ref q), (1, .int (nI k))], [], M1) (fun v M' => (∃ (G5 : Nat → Int32), (∀ j, j < H → tg f E j = 1 → G5 j = shI (shN (tX f n E j))) ∧ v = none ∧ M'.1 (qq 5) = some (ar .int H G5) ∧ fm [qq 5] M M'))) := by
    intro kf
    induction kf with
    | zero => exact (by intros; exact pl_0)
    | succ kf ih =>
      intro k G M1 hl_q hl_qq_1 hl_qq_2 hl_qq_3 hl_qq_4 hl_qq_5 hl_qq_6 hF1 hk hs
      refine ps_st1 (S' := (3, [(0, .ref q), (1, .int (nI k))], [.int (nI k)], M1)) rfl rfl rfl ?_
      refine ps_st (S' := (4, [(0, .ref q), (1, .int (nI k))], [.ref q, .int (nI k)], M1)) rfl rfl rfl ?_
      refine ps_get (S' := (7, [(0, .ref q), (1, .int (nI k))], [.ref (qq 1), .int (nI k)], M1)) rfl hl_q rfl rfl ?_
      refine ps_alen (S' := (8, [(0, .ref q), (1, .int (nI k))], [.int (nI H), .int (nI k)], M1)) rfl hl_qq_1 rfl ?_
      refine ps_if2 (S1 := (56, [(0, .ref q), (1, .int (nI k))], [], M1)) (S2 := (11, [(0, .ref q), (1, .int (nI k))], [], M1)) rfl rfl rfl (fun c_8 => ?_) (fun c_8 => ?_)
      · have c_8 : (nI H) ≤ (nI k) := of_decide_eq_true c_8
        have n_8 : H ≤ k := (le_nI (p := H) (n := k) (by omega) (by omega)).mp c_8
        exact ps_ret rfl rfl (⟨_, fun j hj h1 => hs j (by omega) h1, rfl, hl_qq_5, hF1⟩)
      · have c_8 : ¬ ((nI H) ≤ (nI k)) := of_decide_eq_false c_8
        have n_8 : ¬ (H ≤ k) := fun h9 => c_8 ((le_nI (p := H) (n := k) (by omega) (by omega)).mpr h9)
        refine ps_st (S' := (12, [(0, .ref q), (1, .int (nI k))], [.ref q], M1)) rfl rfl rfl ?_
        refine ps_get (S' := (15, [(0, .ref q), (1, .int (nI k))], [.ref (qq 1)], M1)) rfl hl_q rfl rfl ?_
        refine ps_st (S' := (16, [(0, .ref q), (1, .int (nI k))], [.int (nI k), .ref (qq 1)], M1)) rfl rfl rfl ?_
        refine ps_ald (S' := (17, [(0, .ref q), (1, .int (nI k))], [.int ((F 1) (Int32.toNatClampNeg (nI k)))], M1)) rfl hl_qq_1 rfl (fun i0_16 i1_16 => ?_)
        rw [show ((F 1) (Int32.toNatClampNeg (nI k))) = (nI (tg f E k)) from (congrArg (F 1) (nI_toNat (k := k) (by omega))).trans (hVF.1 k)]
        show pl _ _ _ (_, [(0, .ref q), (1, .int (nI k))], [.int (nI (tg f E k))], M1) _
        refine ps_st (S' := (18, [(0, .ref q), (1, .int (nI k))], [.int 1, .int (nI (tg f E k))], M1)) rfl rfl rfl ?_
        refine ps_if2 (S1 := (50, [(0, .ref q), (1, .int (nI k))], [], M1)) (S2 := (21, [(0, .ref q), (1, .int (nI k))], [], M1)) rfl rfl rfl (fun c_18 => ?_) (fun c_18 => ?_)
        · have c_18 : ¬ (nI (tg f E k)) = 1 := of_decide_eq_true c_18
          have n_18 : ¬ (tg f E k = 1) := fun h9 => c_18 ((eq_nI (p := tg f E k) (n := 1) (Nat.lt_trans (tg_lt _ _ _) (by decide)) (by decide)).mpr h9)
          refine ps_st (S' := (53, [(1, .int ((nI k) + 1)), (0, .ref q)], [], M1)) rfl rfl rfl ?_
          rw [nI_add1 (p := k) (k := 1) (x := 1) rfl (by omega)]
          show pl _ _ _ (_, [(1, .int (nI (k + 1))), (0, .ref q)], [], M1) _
          refine ps_st (S' := (2, [(0, .ref q), (1, .int (nI (k + 1)))], [], M1)) rfl rfl rfl ?_
          exact ih (k + 1) (G) M1 hl_q hl_qq_1 hl_qq_2 hl_qq_3 hl_qq_4 hl_qq_5 hl_qq_6 hF1 (by omega) (fun j hj h1 => by
              by_cases h2 : j = k
              · rw [h2] at h1; exact absurd h1 n_18
              · exact hs j (by omega) h1)
        · have c_18 : ¬ (¬ (nI (tg f E k)) = 1) := of_decide_eq_false c_18
          have n_18 : tg f E k = 1 := (eq_nI (p := tg f E k) (n := 1) (Nat.lt_trans (tg_lt _ _ _) (by decide)) (by decide)).mp (Decidable.not_not.mp c_18)
          obtain ⟨c9, hc3, hc4, hcm, hc6⟩ := hVF.2.2.2.2 k n_18
          have hl8 := tx_len f n E k
          refine ps_st (S' := (22, [(0, .ref q), (1, .int (nI k))], [.ref q], M1)) rfl rfl rfl ?_
          refine ps_get (S' := (25, [(0, .ref q), (1, .int (nI k))], [.ref (qq 5)], M1)) rfl hl_q rfl rfl ?_
          refine ps_st (S' := (26, [(0, .ref q), (1, .int (nI k))], [.int (nI k), .ref (qq 5)], M1)) rfl rfl rfl ?_
          refine ps_st (S' := (27, [(0, .ref q), (1, .int (nI k))], [.ref q, .int (nI k), .ref (qq 5)], M1)) rfl rfl rfl ?_
          refine ps_st (S' := (28, [(0, .ref q), (1, .int (nI k))], [.ref q, .ref q, .int (nI k), .ref (qq 5)], M1)) rfl rfl rfl ?_
          refine ps_get (S' := (31, [(0, .ref q), (1, .int (nI k))], [.ref (qq 3), .ref q, .int (nI k), .ref (qq 5)], M1)) rfl hl_q rfl rfl ?_
          refine ps_st (S' := (32, [(0, .ref q), (1, .int (nI k))], [.int (nI k), .ref (qq 3), .ref q, .int (nI k), .ref (qq 5)], M1)) rfl rfl rfl ?_
          refine ps_ald (S' := (33, [(0, .ref q), (1, .int (nI k))], [.int ((F 3) (Int32.toNatClampNeg (nI k))), .ref q, .int (nI k), .ref (qq 5)], M1)) rfl hl_qq_3 rfl (fun i0_32 i1_32 => ?_)
          rw [show ((F 3) (Int32.toNatClampNeg (nI k))) = (nI c9) from (congrArg (F 3) (nI_toNat (k := k) (by omega))).trans (hc3)]
          show pl _ _ _ (_, [(0, .ref q), (1, .int (nI k))], [.int (nI c9), .ref q, .int (nI k), .ref (qq 5)], M1) _
          refine ps_st (S' := (34, [(0, .ref q), (1, .int (nI k))], [.ref q, .int (nI c9), .ref q, .int (nI k), .ref (qq 5)], M1)) rfl rfl rfl ?_
          refine ps_get (S' := (37, [(0, .ref q), (1, .int (nI k))], [.ref (qq 3), .int (nI c9), .ref q, .int (nI k), .ref (qq 5)], M1)) rfl hl_q rfl rfl ?_
          refine ps_st (S' := (38, [(0, .ref q), (1, .int (nI k))], [.int (nI k), .ref (qq 3), .int (nI c9), .ref q, .int (nI k), .ref (qq 5)], M1)) rfl rfl rfl ?_
          refine ps_ald (S' := (39, [(0, .ref q), (1, .int (nI k))], [.int ((F 3) (Int32.toNatClampNeg (nI k))), .int (nI c9), .ref q, .int (nI k), .ref (qq 5)], M1)) rfl hl_qq_3 rfl (fun i0_38 i1_38 => ?_)
          rw [show ((F 3) (Int32.toNatClampNeg (nI k))) = (nI c9) from (congrArg (F 3) (nI_toNat (k := k) (by omega))).trans (hc3)]
          show pl _ _ _ (_, [(0, .ref q), (1, .int (nI k))], [.int (nI c9), .int (nI c9), .ref q, .int (nI k), .ref (qq 5)], M1) _
          refine ps_st (S' := (40, [(0, .ref q), (1, .int (nI k))], [.ref q, .int (nI c9), .int (nI c9), .ref q, .int (nI k), .ref (qq 5)], M1)) rfl rfl rfl ?_
          refine ps_get (S' := (43, [(0, .ref q), (1, .int (nI k))], [.ref (qq 4), .int (nI c9), .int (nI c9), .ref q, .int (nI k), .ref (qq 5)], M1)) rfl hl_q rfl rfl ?_
          refine ps_st (S' := (44, [(0, .ref q), (1, .int (nI k))], [.int (nI k), .ref (qq 4), .int (nI c9), .int (nI c9), .ref q, .int (nI k), .ref (qq 5)], M1)) rfl rfl rfl ?_
          refine ps_ald (S' := (45, [(0, .ref q), (1, .int (nI k))], [.int ((F 4) (Int32.toNatClampNeg (nI k))), .int (nI c9), .int (nI c9), .ref q, .int (nI k), .ref (qq 5)], M1)) rfl hl_qq_4 rfl (fun i0_44 i1_44 => ?_)
          rw [show ((F 4) (Int32.toNatClampNeg (nI k))) = (nI (tX f n E k).length) from (congrArg (F 4) (nI_toNat (k := k) (by omega))).trans (hc4)]
          show pl _ _ _ (_, [(0, .ref q), (1, .int (nI k))], [.int (nI (tX f n E k).length), .int (nI c9), .int (nI c9), .ref q, .int (nI k), .ref (qq 5)], M1) _
          refine ps_st (S' := (46, [(0, .ref q), (1, .int (nI k))], [.int ((nI c9) + (nI (tX f n E k).length)), .int (nI c9), .ref q, .int (nI k), .ref (qq 5)], M1)) rfl rfl rfl ?_
          rw [nI_add1 (p := c9) (k := (tX f n E k).length) (x := (nI (tX f n E k).length)) rfl (by omega)]
          show pl _ _ _ (_, [(0, .ref q), (1, .int (nI k))], [.int (nI (c9 + (tX f n E k).length)), .int (nI c9), .ref q, .int (nI k), .ref (qq 5)], M1) _
          refine pl_call (a := [.ref q, .int (nI c9), .int (nI (c9 + (tX f n E k).length))]) (rest := [.int (nI k), .ref (qq 5)]) rfl rfl rfl (dy_shapeOf (q := q) (H := H) (m := m) (qq := qq) (F := (fun i => if i = 5 then G else F i)) (sz := (nI N)) (cc := cc) (c := (fun i => (tX f n E k).getD i 0)) (B := c9) (e := (tX f n E k).length) (PL5 hl_q hl_qq_1 hl_qq_2 hl_qq_3 hl_qq_4 hl_qq_5 hl_qq_6) (⟨by omega, by omega⟩) (fun i hi => ⟨hc6 i hi, tx_ch _ _ _ _ _⟩)) (fun v1 M2 q3 => ?_)
          obtain ⟨rfl, rfl⟩ := q3
          show pl _ _ _ (49, [(0, .ref q), (1, .int (nI k))], [.int (shI (s_sh (fun i => (tX f n E k).getD i 0) (tX f n E k).length)), .int (nI k), .ref (qq 5)], M1) _
          refine ps_ast rfl hl_qq_5 (fun M4 i0_49 i1_49 h5 f6 z7 => ?_)
          have h8 := (f6 q (ob_ar hl_q hl_qq_5)).trans hl_q
          have h9 := (f6 (qq 1) (hD 1 (by decide) (by decide))).trans hl_qq_1
          have h10 := (f6 (qq 2) (hD 2 (by decide) (by decide))).trans hl_qq_2
          have h11 := (f6 (qq 3) (hD 3 (by decide) (by decide))).trans hl_qq_3
          have h12 := (f6 (qq 4) (hD 4 (by decide) (by decide))).trans hl_qq_4
          have h13 := (f6 (qq 6) (ar_ne hl_qq_6 hl_qq_5 (by decide))).trans hl_qq_6
          have hF14 := hF1.up (by simp) f6 z7
          show pl _ _ _ (50, [(0, .ref q), (1, .int (nI k))], [], M4) _
          refine ps_st (S' := (53, [(1, .int ((nI k) + 1)), (0, .ref q)], [], M4)) rfl rfl rfl ?_
          rw [nI_add1 (p := k) (k := 1) (x := 1) rfl (by omega)]
          show pl _ _ _ (_, [(1, .int (nI (k + 1))), (0, .ref q)], [], M4) _
          refine ps_st (S' := (2, [(0, .ref q), (1, .int (nI (k + 1)))], [], M4)) rfl rfl rfl ?_
          exact ih (k + 1) ((upd G (Int32.toNatClampNeg (nI k)) (shI (s_sh (fun i => (tX f n E k).getD i 0) (tX f n E k).length)))) M4 h8 h9 h10 h11 h12 h5 h13 hF14 (by omega) (fun j hj h1 => by
              rw [upd_shk (by omega)]
              split
              · rename_i h2; rw [h2]; rfl
              · exact hs j (by omega) h1)
  refine ps_st (S' := (1, [(0, .ref q)], [.int 0], M)) rfl rfl rfl ?_
  refine ps_st (S' := (2, [(0, .ref q), (1, .int 0)], [], M)) rfl rfl rfl ?_
  exact (LL kf) (0) (_) M h_q h_qq_1 h_qq_2 h_qq_3 h_qq_4 h_qq_5 h_qq_6 hF (by omega) (fun j hj => by omega)
set_option maxHeartbeats 1000000 in
theorem dk_poolCheck0 {g : xe_G} {M : mi_H} {q c b fr mr fa ic mj na pa vd o8 : Nat} {mi k1 k2 k3 k4 k5 k6 k7 : Int32} (h_o8 : M.1 o8 = some (ob 8 [.null, .int 0, .null])) (h_c : M.1 c = some (ob 3 [.ref b, .ref q, .int mi, .int (nI mj), .int (nI fa), .int (nI ic), .ref fr, .ref mr, .int (nI na), .int (nI pa), .int k1, .int k2, .int k3, .int k4, .int k5, .int k6, .int k7]))  : pt (mT g) 143 [.ref o8, .ref c, .ref vd] M (fun v M' => (v = none ∧ M'.1 o8 = some (ob 8 [.ref q, .int (nI mj), .ref vd]) ∧ fm [o8] M M')) := by
  refine pt_in (b := mb_143 g) rfl (fun kf => ?_)
  show pl (mT g) kf (mb_143 g).2 (0, [(0, .ref o8), (1, .ref c), (2, .ref vd)], [], M) _
  have hF : fm [o8] M M := fm.rf
  refine ps_st (S' := (1, [(0, .ref o8), (1, .ref c), (2, .ref vd)], [.ref o8], M)) rfl rfl rfl ?_
  refine ps_st (S' := (4, [(0, .ref o8), (1, .ref c), (2, .ref vd)], [], M)) rfl rfl rfl ?_
  refine ps_st (S' := (5, [(0, .ref o8), (1, .ref c), (2, .ref vd)], [.ref o8], M)) rfl rfl rfl ?_
  refine ps_st (S' := (6, [(0, .ref o8), (1, .ref c), (2, .ref vd)], [.ref c, .ref o8], M)) rfl rfl rfl ?_
  refine ps_get (S' := (9, [(0, .ref o8), (1, .ref c), (2, .ref vd)], [.ref q, .ref o8], M)) rfl h_c rfl rfl ?_
  refine ps_put (l' := [.ref q, .int 0, .null]) rfl h_o8 rfl rfl (fun M1 h2 f3 z4 => ?_)
  have h5 := (f3 c (ob_ne h_c h_o8 (by decide))).trans h_c
  have hF6 := hF.up (by simp) f3 z4
  show pl _ _ _ (12, [(0, .ref o8), (1, .ref c), (2, .ref vd)], [], M1) _
  refine ps_st (S' := (13, [(0, .ref o8), (1, .ref c), (2, .ref vd)], [.ref o8], M1)) rfl rfl rfl ?_
  refine ps_st (S' := (14, [(0, .ref o8), (1, .ref c), (2, .ref vd)], [.ref c, .ref o8], M1)) rfl rfl rfl ?_
  refine ps_get (S' := (17, [(0, .ref o8), (1, .ref c), (2, .ref vd)], [.int (nI mj), .ref o8], M1)) rfl h5 rfl rfl ?_
  refine ps_put (l' := [.ref q, .int (nI mj), .null]) rfl h2 rfl rfl (fun M7 h8 f9 z10 => ?_)
  have h11 := (f9 c (ob_ne h5 h2 (by decide))).trans h5
  have hF12 := hF6.up (by simp) f9 z10
  show pl _ _ _ (20, [(0, .ref o8), (1, .ref c), (2, .ref vd)], [], M7) _
  refine ps_st (S' := (21, [(0, .ref o8), (1, .ref c), (2, .ref vd)], [.ref o8], M7)) rfl rfl rfl ?_
  refine ps_st (S' := (22, [(0, .ref o8), (1, .ref c), (2, .ref vd)], [.ref vd, .ref o8], M7)) rfl rfl rfl ?_
  refine ps_put (l' := [.ref q, .int (nI mj), .ref vd]) rfl h8 rfl rfl (fun M13 h14 f15 z16 => ?_)
  have h17 := (f15 c (ob_ne h11 h8 (by decide))).trans h11
  have hF18 := hF12.up (by simp) f15 z16
  show pl _ _ _ (25, [(0, .ref o8), (1, .ref c), (2, .ref vd)], [], M13) _
  exact ps_ret rfl rfl (⟨rfl, h14, hF18⟩)
set_option maxHeartbeats 1000000 in
theorem dk_attrCheck0 {g : xe_G} {M : mi_H} {q c b fr mr fa ic mj na pa vd o0 : Nat} {mi k1 k2 k3 k4 k5 k6 k7 : Int32} (h_o0 : M.1 o0 = some (ob 0 [.null, .null, .null, .null, .int 0])) (h_c : M.1 c = some (ob 3 [.ref b, .ref q, .int mi, .int (nI mj), .int (nI fa), .int (nI ic), .ref fr, .ref mr, .int (nI na), .int (nI pa), .int k1, .int k2, .int k3, .int k4, .int k5, .int k6, .int k7]))  : pt (mT g) 21 [.ref o0, .ref c, .ref vd] M (fun v M' => (v = none ∧ M'.1 o0 = some (ob 0 [.ref c, .ref b, .ref q, .ref vd, .int 0]) ∧ fm [o0] M M')) := by
  refine pt_in (b := mb_21 g) rfl (fun kf => ?_)
  show pl (mT g) kf (mb_21 g).2 (0, [(0, .ref o0), (1, .ref c), (2, .ref vd)], [], M) _
  have hF : fm [o0] M M := fm.rf
  refine ps_st (S' := (1, [(0, .ref o0), (1, .ref c), (2, .ref vd)], [.ref o0], M)) rfl rfl rfl ?_
  refine ps_st (S' := (4, [(0, .ref o0), (1, .ref c), (2, .ref vd)], [], M)) rfl rfl rfl ?_
  refine ps_st (S' := (5, [(0, .ref o0), (1, .ref c), (2, .ref vd)], [.ref o0], M)) rfl rfl rfl ?_
  refine ps_st (S' := (6, [(0, .ref o0), (1, .ref c), (2, .ref vd)], [.ref c, .ref o0], M)) rfl rfl rfl ?_
  refine ps_put (l' := [.ref c, .null, .null, .null, .int 0]) rfl h_o0 rfl rfl (fun M1 h2 f3 z4 => ?_)
  have h5 := (f3 c (ob_ne h_c h_o0 (by decide))).trans h_c
  have hF6 := hF.up (by simp) f3 z4
  show pl _ _ _ (9, [(0, .ref o0), (1, .ref c), (2, .ref vd)], [], M1) _
  refine ps_st (S' := (10, [(0, .ref o0), (1, .ref c), (2, .ref vd)], [.ref o0], M1)) rfl rfl rfl ?_
  refine ps_st (S' := (11, [(0, .ref o0), (1, .ref c), (2, .ref vd)], [.ref vd, .ref o0], M1)) rfl rfl rfl ?_
  refine ps_put (l' := [.ref c, .null, .null, .ref vd, .int 0]) rfl h2 rfl rfl (fun M7 h8 f9 z10 => ?_)
  have h11 := (f9 c (ob_ne h5 h2 (by decide))).trans h5
  have hF12 := hF6.up (by simp) f9 z10
  show pl _ _ _ (14, [(0, .ref o0), (1, .ref c), (2, .ref vd)], [], M7) _
  refine ps_st (S' := (15, [(0, .ref o0), (1, .ref c), (2, .ref vd)], [.ref o0], M7)) rfl rfl rfl ?_
  refine ps_st (S' := (16, [(0, .ref o0), (1, .ref c), (2, .ref vd)], [.ref c, .ref o0], M7)) rfl rfl rfl ?_
  refine ps_get (S' := (19, [(0, .ref o0), (1, .ref c), (2, .ref vd)], [.ref b, .ref o0], M7)) rfl h11 rfl rfl ?_
  refine ps_put (l' := [.ref c, .ref b, .null, .ref vd, .int 0]) rfl h8 rfl rfl (fun M13 h14 f15 z16 => ?_)
  have h17 := (f15 c (ob_ne h11 h8 (by decide))).trans h11
  have hF18 := hF12.up (by simp) f15 z16
  show pl _ _ _ (22, [(0, .ref o0), (1, .ref c), (2, .ref vd)], [], M13) _
  refine ps_st (S' := (23, [(0, .ref o0), (1, .ref c), (2, .ref vd)], [.ref o0], M13)) rfl rfl rfl ?_
  refine ps_st (S' := (24, [(0, .ref o0), (1, .ref c), (2, .ref vd)], [.ref c, .ref o0], M13)) rfl rfl rfl ?_
  refine ps_get (S' := (27, [(0, .ref o0), (1, .ref c), (2, .ref vd)], [.ref q, .ref o0], M13)) rfl h17 rfl rfl ?_
  refine ps_put (l' := [.ref c, .ref b, .ref q, .ref vd, .int 0]) rfl h14 rfl rfl (fun M19 h20 f21 z22 => ?_)
  have h23 := (f21 c (ob_ne h17 h14 (by decide))).trans h17
  have hF24 := hF18.up (by simp) f21 z22
  show pl _ _ _ (30, [(0, .ref o0), (1, .ref c), (2, .ref vd)], [], M19) _
  exact ps_ret rfl rfl (⟨rfl, h20, hF24⟩)
set_option maxHeartbeats 1000000 in
theorem dk_classCheck0 {g : xe_G} {M : mi_H} {q c b fr mr fa ic mj na pa vd o2 ac : Nat} {mi k1 k2 k3 k4 k5 k6 k7 : Int32} (h_o2 : M.1 o2 = some (ob 2 [.null, .null, .null, .null, .null])) (h_c : M.1 c = some (ob 3 [.ref b, .ref q, .int mi, .int (nI mj), .int (nI fa), .int (nI ic), .ref fr, .ref mr, .int (nI na), .int (nI pa), .int k1, .int k2, .int k3, .int k4, .int k5, .int k6, .int k7]))  : pt (mT g) 51 [.ref o2, .ref c, .ref vd, .ref ac] M (fun v M' => (v = none ∧ M'.1 o2 = some (ob 2 [.ref c, .ref b, .ref q, .ref vd, .ref ac]) ∧ fm [o2] M M')) := by
  refine pt_in (b := mb_51 g) rfl (fun kf => ?_)
  show pl (mT g) kf (mb_51 g).2 (0, [(0, .ref o2), (1, .ref c), (2, .ref vd), (3, .ref ac)], [], M) _
  have hF : fm [o2] M M := fm.rf
  refine ps_st (S' := (1, [(0, .ref o2), (1, .ref c), (2, .ref vd), (3, .ref ac)], [.ref o2], M)) rfl rfl rfl ?_
  refine ps_st (S' := (4, [(0, .ref o2), (1, .ref c), (2, .ref vd), (3, .ref ac)], [], M)) rfl rfl rfl ?_
  refine ps_st (S' := (5, [(0, .ref o2), (1, .ref c), (2, .ref vd), (3, .ref ac)], [.ref o2], M)) rfl rfl rfl ?_
  refine ps_st (S' := (6, [(0, .ref o2), (1, .ref c), (2, .ref vd), (3, .ref ac)], [.ref c, .ref o2], M)) rfl rfl rfl ?_
  refine ps_put (l' := [.ref c, .null, .null, .null, .null]) rfl h_o2 rfl rfl (fun M1 h2 f3 z4 => ?_)
  have h5 := (f3 c (ob_ne h_c h_o2 (by decide))).trans h_c
  have hF6 := hF.up (by simp) f3 z4
  show pl _ _ _ (9, [(0, .ref o2), (1, .ref c), (2, .ref vd), (3, .ref ac)], [], M1) _
  refine ps_st (S' := (10, [(0, .ref o2), (1, .ref c), (2, .ref vd), (3, .ref ac)], [.ref o2], M1)) rfl rfl rfl ?_
  refine ps_st (S' := (11, [(0, .ref o2), (1, .ref c), (2, .ref vd), (3, .ref ac)], [.ref vd, .ref o2], M1)) rfl rfl rfl ?_
  refine ps_put (l' := [.ref c, .null, .null, .ref vd, .null]) rfl h2 rfl rfl (fun M7 h8 f9 z10 => ?_)
  have h11 := (f9 c (ob_ne h5 h2 (by decide))).trans h5
  have hF12 := hF6.up (by simp) f9 z10
  show pl _ _ _ (14, [(0, .ref o2), (1, .ref c), (2, .ref vd), (3, .ref ac)], [], M7) _
  refine ps_st (S' := (15, [(0, .ref o2), (1, .ref c), (2, .ref vd), (3, .ref ac)], [.ref o2], M7)) rfl rfl rfl ?_
  refine ps_st (S' := (16, [(0, .ref o2), (1, .ref c), (2, .ref vd), (3, .ref ac)], [.ref ac, .ref o2], M7)) rfl rfl rfl ?_
  refine ps_put (l' := [.ref c, .null, .null, .ref vd, .ref ac]) rfl h8 rfl rfl (fun M13 h14 f15 z16 => ?_)
  have h17 := (f15 c (ob_ne h11 h8 (by decide))).trans h11
  have hF18 := hF12.up (by simp) f15 z16
  show pl _ _ _ (19, [(0, .ref o2), (1, .ref c), (2, .ref vd), (3, .ref ac)], [], M13) _
  refine ps_st (S' := (20, [(0, .ref o2), (1, .ref c), (2, .ref vd), (3, .ref ac)], [.ref o2], M13)) rfl rfl rfl ?_
  refine ps_st (S' := (21, [(0, .ref o2), (1, .ref c), (2, .ref vd), (3, .ref ac)], [.ref c, .ref o2], M13)) rfl rfl rfl ?_
  refine ps_get (S' := (24, [(0, .ref o2), (1, .ref c), (2, .ref vd), (3, .ref ac)], [.ref b, .ref o2], M13)) rfl h17 rfl rfl ?_
  refine ps_put (l' := [.ref c, .ref b, .null, .ref vd, .ref ac]) rfl h14 rfl rfl (fun M19 h20 f21 z22 => ?_)
  have h23 := (f21 c (ob_ne h17 h14 (by decide))).trans h17
  have hF24 := hF18.up (by simp) f21 z22
  show pl _ _ _ (27, [(0, .ref o2), (1, .ref c), (2, .ref vd), (3, .ref ac)], [], M19) _
  refine ps_st (S' := (28, [(0, .ref o2), (1, .ref c), (2, .ref vd), (3, .ref ac)], [.ref o2], M19)) rfl rfl rfl ?_
  refine ps_st (S' := (29, [(0, .ref o2), (1, .ref c), (2, .ref vd), (3, .ref ac)], [.ref c, .ref o2], M19)) rfl rfl rfl ?_
  refine ps_get (S' := (32, [(0, .ref o2), (1, .ref c), (2, .ref vd), (3, .ref ac)], [.ref q, .ref o2], M19)) rfl h23 rfl rfl ?_
  refine ps_put (l' := [.ref c, .ref b, .ref q, .ref vd, .ref ac]) rfl h20 rfl rfl (fun M25 h26 f27 z28 => ?_)
  have h29 := (f27 c (ob_ne h23 h20 (by decide))).trans h23
  have hF30 := hF24.up (by simp) f27 z28
  show pl _ _ _ (35, [(0, .ref o2), (1, .ref c), (2, .ref vd), (3, .ref ac)], [], M25) _
  exact ps_ret rfl rfl (⟨rfl, h26, hF30⟩)
set_option maxHeartbeats 1000000 in
theorem dk_verdict0 {g : xe_G} {M : mi_H} {o10 : Nat} (h_o10 : M.1 o10 = some (ob 10 [.int 0, .int 0]))  : pt (mT g) 171 [.ref o10] M (fun v M' => (v = none ∧ M'.1 o10 = some (ob 10 [.int 0, .int (-1)]) ∧ fm [o10] M M')) := by
  refine pt_in (b := mb_171 g) rfl (fun kf => ?_)
  show pl (mT g) kf (mb_171 g).2 (0, [(0, .ref o10)], [], M) _
  have hF : fm [o10] M M := fm.rf
  refine ps_st (S' := (1, [(0, .ref o10)], [.ref o10], M)) rfl rfl rfl ?_
  refine ps_st (S' := (4, [(0, .ref o10)], [], M)) rfl rfl rfl ?_
  refine ps_st (S' := (5, [(0, .ref o10)], [.ref o10], M)) rfl rfl rfl ?_
  refine ps_st (S' := (6, [(0, .ref o10)], [.int (-1), .ref o10], M)) rfl rfl rfl ?_
  refine ps_put (l' := [.int 0, .int (-1)]) rfl h_o10 rfl rfl (fun M1 h2 f3 z4 => ?_)
  have hF5 := hF.up (by simp) f3 z4
  show pl _ _ _ (9, [(0, .ref o10)], [], M1) _
  exact ps_ret rfl rfl (⟨rfl, h2, hF5⟩)
set_option maxHeartbeats 1000000 in
theorem dk_bytes0 {g : xe_G} {M : mi_H} {o1 da : Nat} (h_o1 : M.1 o1 = some (ob 1 [.null]))  : pt (mT g) 44 [.ref o1, .ref da] M (fun v M' => (v = none ∧ M'.1 o1 = some (ob 1 [.ref da]) ∧ fm [o1] M M')) := by
  refine pt_in (b := mb_44 g) rfl (fun kf => ?_)
  show pl (mT g) kf (mb_44 g).2 (0, [(0, .ref o1), (1, .ref da)], [], M) _
  have hF : fm [o1] M M := fm.rf
  refine ps_st (S' := (1, [(0, .ref o1), (1, .ref da)], [.ref o1], M)) rfl rfl rfl ?_
  refine ps_st (S' := (4, [(0, .ref o1), (1, .ref da)], [], M)) rfl rfl rfl ?_
  refine ps_st (S' := (5, [(0, .ref o1), (1, .ref da)], [.ref o1], M)) rfl rfl rfl ?_
  refine ps_st (S' := (6, [(0, .ref o1), (1, .ref da)], [.ref da, .ref o1], M)) rfl rfl rfl ?_
  refine ps_put (l' := [.ref da]) rfl h_o1 rfl rfl (fun M1 h2 f3 z4 => ?_)
  have hF5 := hF.up (by simp) f3 z4
  show pl _ _ _ (9, [(0, .ref o1), (1, .ref da)], [], M1) _
  exact ps_ret rfl rfl (⟨rfl, h2, hF5⟩)
set_option maxHeartbeats 1000000 in
theorem dk_reader0 {g : xe_G} {M : mi_H} {o9 vd : Nat} {c b : Nat} {mi ma fa ic ac aa k1 k2 k3 k4 k5 k6 k7 : Int32} {u1 u6 u7 : Value} (h_o9 : M.1 o9 = some (ob 9 [.null, .null, .null, .int 0, .int 0])) (h_c : M.1 c = some (ob 3 [.ref b, u1, .int mi, .int ma, .int fa, .int ic, u6, u7, .int ac, .int aa, .int k1, .int k2, .int k3, .int k4, .int k5, .int k6, .int k7]))  : pt (mT g) 154 [.ref o9, .ref c, .ref vd] M (fun v M' => (v = none ∧ M'.1 o9 = some (ob 9 [.ref c, .ref b, .ref vd, .int 0, .int 0]) ∧ fm [o9] M M')) := by
  refine pt_in (b := mb_154 g) rfl (fun kf => ?_)
  show pl (mT g) kf (mb_154 g).2 (0, [(0, .ref o9), (1, .ref c), (2, .ref vd)], [], M) _
  have hF : fm [o9] M M := fm.rf
  refine ps_st (S' := (1, [(0, .ref o9), (1, .ref c), (2, .ref vd)], [.ref o9], M)) rfl rfl rfl ?_
  refine ps_st (S' := (4, [(0, .ref o9), (1, .ref c), (2, .ref vd)], [], M)) rfl rfl rfl ?_
  refine ps_st (S' := (5, [(0, .ref o9), (1, .ref c), (2, .ref vd)], [.ref o9], M)) rfl rfl rfl ?_
  refine ps_st (S' := (6, [(0, .ref o9), (1, .ref c), (2, .ref vd)], [.ref c, .ref o9], M)) rfl rfl rfl ?_
  refine ps_put (l' := [.ref c, .null, .null, .int 0, .int 0]) rfl h_o9 rfl rfl (fun M1 h2 f3 z4 => ?_)
  have h5 := (f3 c (ob_ne h_c h_o9 (by decide))).trans h_c
  have hF6 := hF.up (by simp) f3 z4
  show pl _ _ _ (9, [(0, .ref o9), (1, .ref c), (2, .ref vd)], [], M1) _
  refine ps_st (S' := (10, [(0, .ref o9), (1, .ref c), (2, .ref vd)], [.ref o9], M1)) rfl rfl rfl ?_
  refine ps_st (S' := (11, [(0, .ref o9), (1, .ref c), (2, .ref vd)], [.ref vd, .ref o9], M1)) rfl rfl rfl ?_
  refine ps_put (l' := [.ref c, .null, .ref vd, .int 0, .int 0]) rfl h2 rfl rfl (fun M7 h8 f9 z10 => ?_)
  have h11 := (f9 c (ob_ne h5 h2 (by decide))).trans h5
  have hF12 := hF6.up (by simp) f9 z10
  show pl _ _ _ (14, [(0, .ref o9), (1, .ref c), (2, .ref vd)], [], M7) _
  refine ps_st (S' := (15, [(0, .ref o9), (1, .ref c), (2, .ref vd)], [.ref o9], M7)) rfl rfl rfl ?_
  refine ps_st (S' := (16, [(0, .ref o9), (1, .ref c), (2, .ref vd)], [.ref c, .ref o9], M7)) rfl rfl rfl ?_
  refine ps_get (S' := (19, [(0, .ref o9), (1, .ref c), (2, .ref vd)], [.ref b, .ref o9], M7)) rfl h11 rfl rfl ?_
  refine ps_put (l' := [.ref c, .ref b, .ref vd, .int 0, .int 0]) rfl h8 rfl rfl (fun M13 h14 f15 z16 => ?_)
  have h17 := (f15 c (ob_ne h11 h8 (by decide))).trans h11
  have hF18 := hF12.up (by simp) f15 z16
  show pl _ _ _ (22, [(0, .ref o9), (1, .ref c), (2, .ref vd)], [], M13) _
  exact ps_ret rfl rfl (⟨rfl, h14, hF18⟩)
set_option maxHeartbeats 1000000 in
theorem dk_classFile0 {g : xe_G} {M : mi_H} {o3 b : Nat} (h_o3 : M.1 o3 = some (ob 3 [.null, .null, .int 0, .int 0, .int 0, .int 0, .null, .null, .int 0, .int 0, .int 0, .int 0, .int 0, .int 0, .int 0, .int 0, .int 0])) (l_o3 : o3 < M.2.1) : pt (mT g) 68 [.ref o3, .ref b] M (fun v M' => (∃ (u1 u6 u7 : Value), v = none ∧ M'.1 o3 = some (ob 3 [.ref b, u1, .int 0, .int 0, .int 0, .int 0, u6, u7, .int 0, .int 0, .int 0, .int 0, .int 0, .int 0, .int 0, .int 0, .int (-1)]) ∧ gm [o3] M M' ∧ M.2.1 ≤ M'.2.1)) := by
  refine pt_in (b := mb_68 g) rfl (fun kf => ?_)
  show pl (mT g) kf (mb_68 g).2 (0, [(0, .ref o3), (1, .ref b)], [], M) _
  have hF : gm [o3] M M := gm.rf
  obtain ⟨z0, tp0⟩ : ∃ z0, M.2.1 = z0 := ⟨_, rfl⟩
  refine ps_st (S' := (1, [(0, .ref o3), (1, .ref b)], [.ref o3], M)) rfl rfl rfl ?_
  refine ps_st (S' := (4, [(0, .ref o3), (1, .ref b)], [], M)) rfl rfl rfl ?_
  refine ps_st (S' := (5, [(0, .ref o3), (1, .ref b)], [.ref o3], M)) rfl rfl rfl ?_
  refine ps_st (S' := (6, [(0, .ref o3), (1, .ref b)], [.ref b, .ref o3], M)) rfl rfl rfl ?_
  refine ps_put (l' := [.ref b, .null, .int 0, .int 0, .int 0, .int 0, .null, .null, .int 0, .int 0, .int 0, .int 0, .int 0, .int 0, .int 0, .int 0, .int 0]) rfl h_o3 rfl rfl (fun M1 h2 f3 z4 => ?_)
  have hF5 := hF.up (Or.inl (by simp)) f3 (by rw [z4]; exact Nat.le_refl _)
  have tp6 : M1.2.1 = z0 := by rw [z4]; exact tp0
  show pl _ _ _ (9, [(0, .ref o3), (1, .ref b)], [], M1) _
  refine ps_st (S' := (10, [(0, .ref o3), (1, .ref b)], [.ref o3], M1)) rfl rfl rfl ?_
  refine ps_newz rfl tp6 (fun M7 h8 f9 tp10 => ?_)
  have h11 := (f9 o3 (show o3 ≠ z0 by omega)).trans h2
  have hF12 := hF5.up (Or.inr (by omega)) f9 (by omega)
  show pl _ _ _ (13, [(0, .ref o3), (1, .ref b)], [.ref z0, .ref o3], M7) _
  refine ps_st (S' := (14, [(0, .ref o3), (1, .ref b)], [.ref z0, .ref z0, .ref o3], M7)) rfl rfl rfl ?_
  refine ps_st (S' := (15, [(0, .ref o3), (1, .ref b)], [.int 0, .ref z0, .ref z0, .ref o3], M7)) rfl rfl rfl ?_
  refine ps_st (S' := (16, [(0, .ref o3), (1, .ref b)], [.int 0, .int 0, .ref z0, .ref z0, .ref o3], M7)) rfl rfl rfl ?_
  refine pl_call (a := [.ref z0, .int 0, .int 0]) (rest := [.ref z0, .ref o3]) rfl rfl rfl (dk_pool (pq := z0) (N := 0) (n := 0) h8 (by omega) (by decide) (by decide)) (fun v13 M14 q15 => ?_)
  obtain ⟨rfl, h16, h17, h18, h19, h20, h21, h22, f23, tp24⟩ := q15
  rw [tp10] at h16 h17 h18 h19 h20 h21 h22 tp24
  have h25 := (f23.1 o3 (by omega) (nin1 (show o3 ≠ z0 by omega))).trans h11
  have hF26 := hF12.tr f23 (by intro z hz; simp only [List.mem_cons, List.not_mem_nil, or_false] at hz ⊢; try omega)
  show pl _ _ _ (19, [(0, .ref o3), (1, .ref b)], [.ref z0, .ref o3], M14) _
  refine ps_put (l' := [.ref b, .ref z0, .int 0, .int 0, .int 0, .int 0, .null, .null, .int 0, .int 0, .int 0, .int 0, .int 0, .int 0, .int 0, .int 0, .int 0]) rfl h25 rfl rfl (fun M27 h28 f29 z30 => ?_)
  have hF31 := hF26.up (Or.inl (by simp)) f29 (by rw [z30]; exact Nat.le_refl _)
  have tp32 : M27.2.1 = z0 + 7 := by rw [z30]; exact tp24
  show pl _ _ _ (22, [(0, .ref o3), (1, .ref b)], [], M27) _
  refine ps_st (S' := (23, [(0, .ref o3), (1, .ref b)], [.ref o3], M27)) rfl rfl rfl ?_
  refine ps_st (S' := (24, [(0, .ref o3), (1, .ref b)], [.int 0, .ref o3], M27)) rfl rfl rfl ?_
  refine ps_anew rfl tp32 (fun M33 i0_24 h34 f35 tp36 => ?_)
  rw [show Int32.toNatClampNeg 0 = 0 from rfl] at h34
  have h37 := (f35 o3 (show o3 ≠ (z0 + 7) by omega)).trans h28
  have hF38 := hF31.up (Or.inr (by omega)) f35 (by omega)
  show pl _ _ _ (27, [(0, .ref o3), (1, .ref b)], [.ref (z0 + 7), .ref o3], M33) _
  refine ps_put (l' := [.ref b, .ref z0, .int 0, .int 0, .int 0, .int 0, .ref (z0 + 7), .null, .int 0, .int 0, .int 0, .int 0, .int 0, .int 0, .int 0, .int 0, .int 0]) rfl h37 rfl rfl (fun M39 h40 f41 z42 => ?_)
  have h43 := (f41 (z0 + 7) (show (z0 + 7) ≠ o3 by omega)).trans h34
  have hF44 := hF38.up (Or.inl (by simp)) f41 (by rw [z42]; exact Nat.le_refl _)
  have tp45 : M39.2.1 = z0 + 8 := by rw [z42]; exact tp36
  show pl _ _ _ (30, [(0, .ref o3), (1, .ref b)], [], M39) _
  refine ps_st (S' := (31, [(0, .ref o3), (1, .ref b)], [.ref o3], M39)) rfl rfl rfl ?_
  refine ps_st (S' := (32, [(0, .ref o3), (1, .ref b)], [.int 0, .ref o3], M39)) rfl rfl rfl ?_
  refine ps_anew rfl tp45 (fun M46 i0_32 h47 f48 tp49 => ?_)
  rw [show Int32.toNatClampNeg 0 = 0 from rfl] at h47
  have h50 := (f48 o3 (show o3 ≠ (z0 + 8) by omega)).trans h40
  have h51 := (f48 (z0 + 7) (show (z0 + 7) ≠ (z0 + 8) by omega)).trans h43
  have hF52 := hF44.up (Or.inr (by omega)) f48 (by omega)
  show pl _ _ _ (35, [(0, .ref o3), (1, .ref b)], [.ref (z0 + 8), .ref o3], M46) _
  refine ps_put (l' := [.ref b, .ref z0, .int 0, .int 0, .int 0, .int 0, .ref (z0 + 7), .ref (z0 + 8), .int 0, .int 0, .int 0, .int 0, .int 0, .int 0, .int 0, .int 0, .int 0]) rfl h50 rfl rfl (fun M53 h54 f55 z56 => ?_)
  have h57 := (f55 (z0 + 7) (show (z0 + 7) ≠ o3 by omega)).trans h51
  have h58 := (f55 (z0 + 8) (show (z0 + 8) ≠ o3 by omega)).trans h47
  have hF59 := hF52.up (Or.inl (by simp)) f55 (by rw [z56]; exact Nat.le_refl _)
  have tp60 : M53.2.1 = z0 + 9 := by rw [z56]; exact tp49
  show pl _ _ _ (38, [(0, .ref o3), (1, .ref b)], [], M53) _
  refine ps_st (S' := (39, [(0, .ref o3), (1, .ref b)], [.ref o3], M53)) rfl rfl rfl ?_
  refine ps_st (S' := (40, [(0, .ref o3), (1, .ref b)], [.int (-1), .ref o3], M53)) rfl rfl rfl ?_
  refine ps_put (l' := [.ref b, .ref z0, .int 0, .int 0, .int 0, .int 0, .ref (z0 + 7), .ref (z0 + 8), .int 0, .int 0, .int 0, .int 0, .int 0, .int 0, .int 0, .int 0, .int (-1)]) rfl h54 rfl rfl (fun M61 h62 f63 z64 => ?_)
  have h65 := (f63 (z0 + 7) (show (z0 + 7) ≠ o3 by omega)).trans h57
  have h66 := (f63 (z0 + 8) (show (z0 + 8) ≠ o3 by omega)).trans h58
  have hF67 := hF59.up (Or.inl (by simp)) f63 (by rw [z64]; exact Nat.le_refl _)
  have tp68 : M61.2.1 = z0 + 9 := by rw [z64]; exact tp60
  show pl _ _ _ (43, [(0, .ref o3), (1, .ref b)], [], M61) _
  exact ps_ret rfl rfl (⟨_, _, _, rfl, h62, hF67, hF67.2⟩)
set_option maxHeartbeats 1000000 in
theorem dk_holds_c {g : xe_G} {M : mi_H} {f : Nat → Int32} {n N q : Nat} {E : List (Nat × Nat)} {ox ac o z9 c b da vd fr mr fa ic mj na pa e0 : Nat} {s1 mi ru wa k1 : Int32} {B1 B2 : List Nat} {G1 G2 : Nat → Nat} {og ga gf : Nat} {gn gw : Int32} {gk : Value} (h_ox : M.1 ox = some (ob 8 [.ref q, .int (nI mj), .ref vd])) (h_ac : M.1 ac = some (ob 0 [.ref c, .ref b, .ref q, .ref vd, .int s1])) (h_o : M.1 o = some (ob 2 [.ref c, .ref b, .ref q, .ref vd, .ref ac])) (h_c : M.1 c = some (ob 3 [.ref b, .ref q, .int mi, .int (nI mj), .int (nI fa), .int (nI ic), .ref fr, .ref mr, .int (nI na), .int (nI pa), .int k1, .int 0, .int 0, .int 0, .int 0, .int 0, .int (-1)])) (h_b : M.1 b = some (ob 1 [.ref da])) (h_da : M.1 da = some (ar .byte n f)) (h_vd : M.1 vd = some (ob 10 [.int ru, .int wa])) (h_og : M.1 og = some (ob 11 [.ref ga, .int gn, .ref gf, gk, .int gw])) (hn : n ≤ 65540) (hmj : mj < 65536) (hfa : fa + 8 ≤ n) (hic : fa + 8 + 2 * ic ≤ n) (hic2 : ic < 65536) (hna : na < 65536 ∧ pa ≤ n) (hat : s_atts f n na pa = .inr e0) (hB91 : B1.length < 65536) (hB92 : B2.length < 65536) (hB1 : ∀ i, i < B1.length → B1.getD i 0 + 8 ≤ n ∧ ∃ e0, s_atts f n (by2 f (B1.getD i 0 + 6)) (B1.getD i 0 + 8) = .inr e0) (hB2 : ∀ i, i < B2.length → B2.getD i 0 + 8 ≤ n ∧ ∃ e0, s_atts f n (by2 f (B2.getD i 0 + 6)) (B2.getD i 0 + 8) = .inr e0) (hDs : ∀ i j, i < B1.length → j < B2.length → ¬ G1 i = G2 j) (l_c : c < M.2.1) (l_b : b < M.2.1) (l_da : da < M.2.1) (l_vd : vd < M.2.1) (l_q : q < M.2.1) (l_og : og < M.2.1) (l_ox : ox < M.2.1) (l_ac : ac < M.2.1) (l_o : o < M.2.1) (hz9 : z9 ≤ M.2.1) (hq40 : chkP f n E mj (N - 1) 1 = none) (hq48 : hdS f n E fa = none) (hq56 : ifS f n E (fa + 8) ic 0 = none) (hq64 : flS f n E (by2 f fa) B1 B1.length 0 = none) (hq72 : mtS f n E (by2 f fa) mj B2 B2.length 0 = none) (hV : PV g f n N E q M) (kf : Nat) : pl (mT g) kf (mb_11 g).2 (78, [(4, .ref o), (3, .ref ac), (2, .ref ox), (0, .ref c), (1, .ref vd)], [], M) (fun v M' => ((s_chk f n N E mj fa ic B1 B2 na pa = none) ∧ v = some (.int 1) ∧ M'.1 vd = some (ob 10 [.int ru, .int wa]) ∧ M'.1 og = some (ob 11 [.ref ga, .int gn, .ref gf, gk, .int gw]) ∧ z9 ≤ M'.2.1) ∨ (∃ (e9 : Nat × Nat), (s_chk f n N E mj fa ic B1 B2 na pa = some e9) ∧ v = some (.int 0) ∧ M'.1 vd = some (ob 10 [.int (nI e9.1), .int (nI e9.2)]) ∧ M'.1 og = some (ob 11 [.ref ga, .int gn, .ref gf, gk, .int gw]) ∧ z9 ≤ M'.2.1)) := by
  obtain ⟨z0, tp0⟩ : ∃ z0, M.2.1 = z0 := ⟨_, rfl⟩
  refine ps_st (S' := (79, [(4, .ref o), (3, .ref ac), (2, .ref ox), (0, .ref c), (1, .ref vd)], [.ref ac], M)) rfl rfl rfl ?_
  refine pl_call (a := [.ref ac]) (rest := []) rfl rfl rfl (dk_ofClass (f := f) (n := n) (N := N) (q := q) (E := E) (ac := ac) (c := c) (b := b) (da := da) (vd := vd) (fr := fr) (mr := mr) (fa := fa) (ic := ic) (mj := mj) (na := na) (pa := pa) (mi := mi) (ru := ru) (wa := wa) (s1 := s1) (k1 := k1) (e0 := e0) (bc0 := 0) (K0 := (0, 0, 0, 0, 0, -1)) h_ac h_b h_da h_c h_vd (hn) (hmj) (hfa) (hna) (by decide) (hat) (rfl) (hV)) (fun v1 M2 q3 => ?_)
  rcases q3 with q3 | q3
  · skip
    obtain ⟨bc4, K5, s26, q79_s, q79_l, q79_U, rfl, h7, h8, h9, f10⟩ := q3
    have h12 := (f10.1 ox (nin3 (ob_ne h_ox h_ac (by decide)) (ob_ne h_ox h_vd (by decide)) (ob_ne h_ox h_c (by decide)))).trans h_ox
    have h13 := (f10.1 o (nin3 (ob_ne h_o h_ac (by decide)) (ob_ne h_o h_vd (by decide)) (ob_ne h_o h_c (by decide)))).trans h_o
    have h14 := (f10.1 b (nin3 (ob_ne h_b h_ac (by decide)) (ob_ne h_b h_vd (by decide)) (ob_ne h_b h_c (by decide)))).trans h_b
    have h15 := (f10.1 da (nin3 (Ne.symm (ob_ar h_ac h_da)) (Ne.symm (ob_ar h_vd h_da)) (Ne.symm (ob_ar h_c h_da)))).trans h_da
    have h16 := (f10.1 og (nin3 (ob_ne h_og h_ac (by decide)) (ob_ne h_og h_vd (by decide)) (ob_ne h_og h_c (by decide)))).trans h_og
    have tp18 : M2.2.1 = z0 := by rw [f10.2]; exact tp0
    have hV19 := hV.keep f10.gm (n7c h_ac (by decide) (n7c h_vd (by decide) (n7c h_c (by decide) (n7nil))))
    show pl _ _ _ (82, [(4, .ref o), (3, .ref ac), (2, .ref ox), (0, .ref c), (1, .ref vd)], [.int 1], M2) _
    clear h_ox h_ac h_o h_c h_b h_da h_vd h_og hV f10
    refine ps_if (S1 := (100, [], [], M2)) (S2 := (85, [(4, .ref o), (3, .ref ac), (2, .ref ox), (0, .ref c), (1, .ref vd)], [], M2)) rfl rfl rfl (fun c_82 => ?_) (fun c_82 => ?_)
    · exact absurd (of_decide_eq_true c_82) (by decide)
    refine ps_st (S' := (86, [(4, .ref o), (3, .ref ac), (2, .ref ox), (0, .ref c), (1, .ref vd)], [.ref ox], M2)) rfl rfl rfl ?_
    refine ps_st (S' := (87, [(4, .ref o), (3, .ref ac), (2, .ref ox), (0, .ref c), (1, .ref vd)], [.ref c, .ref ox], M2)) rfl rfl rfl ?_
    refine ps_get (S' := (90, [(4, .ref o), (3, .ref ac), (2, .ref ox), (0, .ref c), (1, .ref vd)], [.int (nI bc4), .ref ox], M2)) rfl h9 rfl rfl ?_
    refine pl_call (a := [.ref ox, .int (nI bc4)]) (rest := []) rfl rfl rfl (dk_bootstrapsHold (f := f) (n := n) (N := N) (q := q) (E := E) (o := ox) (vd := vd) (mj := mj) (bc := bc4) (ru := ru) (wa := wa) h12 h7 (hmj) (q79_l) (hV19)) (fun v20 M21 q22 => ?_)
    rcases q22 with q22 | q22
    · skip
      obtain ⟨q90_s, rfl, h23, f24⟩ := q22
      have h26 := (f24.1 ox (nin1 (ob_ne h12 h7 (by decide)))).trans h12
      have h27 := (f24.1 ac (nin1 (ob_ne h8 h7 (by decide)))).trans h8
      have h28 := (f24.1 o (nin1 (ob_ne h13 h7 (by decide)))).trans h13
      have h29 := (f24.1 c (nin1 (ob_ne h9 h7 (by decide)))).trans h9
      have h30 := (f24.1 b (nin1 (ob_ne h14 h7 (by decide)))).trans h14
      have h31 := (f24.1 da (nin1 (Ne.symm (ob_ar h7 h15)))).trans h15
      have h32 := (f24.1 og (nin1 (ob_ne h16 h7 (by decide)))).trans h16
      have tp34 : M21.2.1 = z0 := by rw [f24.2]; exact tp18
      have hV35 := hV19.keep f24.gm (n7c h7 (by decide) (n7nil))
      show pl _ _ _ (93, [(4, .ref o), (3, .ref ac), (2, .ref ox), (0, .ref c), (1, .ref vd)], [.int 1], M21) _
      clear h12 h8 h13 h9 h14 h15 h7 h16 hV19 f24
      refine ps_if (S1 := (100, [], [], M21)) (S2 := (96, [(4, .ref o), (3, .ref ac), (2, .ref ox), (0, .ref c), (1, .ref vd)], [], M21)) rfl rfl rfl (fun c_93 => ?_) (fun c_93 => ?_)
      · exact absurd (of_decide_eq_true c_93) (by decide)
      refine ps_st (S' := (97, [(4, .ref o), (3, .ref ac), (2, .ref ox), (0, .ref c), (1, .ref vd)], [.int 1], M21)) rfl rfl rfl ?_
      refine ps_st (S' := (101, [], [.int 1], M21)) rfl rfl rfl ?_
      exact ps_ret rfl rfl (Or.inl ⟨by
          unfold s_chk
          rw [hq40]
          try dsimp only
          rw [hq48]
          try dsimp only
          rw [hq56]
          try dsimp only
          rw [hq64]
          try dsimp only
          rw [hq72]
          try dsimp only
          rw [q79_s]
          try dsimp only
          rw [q90_s]
          try dsimp only
          first | done | rfl, rfl, h23, h32, by omega⟩)
    · skip
      obtain ⟨e36, q90_s, rfl, h37, f38⟩ := q22
      have h40 := (f38.1 ox (nin1 (ob_ne h12 h7 (by decide)))).trans h12
      have h41 := (f38.1 ac (nin1 (ob_ne h8 h7 (by decide)))).trans h8
      have h42 := (f38.1 o (nin1 (ob_ne h13 h7 (by decide)))).trans h13
      have h43 := (f38.1 c (nin1 (ob_ne h9 h7 (by decide)))).trans h9
      have h44 := (f38.1 b (nin1 (ob_ne h14 h7 (by decide)))).trans h14
      have h45 := (f38.1 da (nin1 (Ne.symm (ob_ar h7 h15)))).trans h15
      have h46 := (f38.1 og (nin1 (ob_ne h16 h7 (by decide)))).trans h16
      have tp48 : M21.2.1 = z0 := by rw [f38.2]; exact tp18
      have hV49 := hV19.keep f38.gm (n7c h7 (by decide) (n7nil))
      show pl _ _ _ (93, [(4, .ref o), (3, .ref ac), (2, .ref ox), (0, .ref c), (1, .ref vd)], [.int 0], M21) _
      clear h12 h8 h13 h9 h14 h15 h7 h16 hV19 f38
      refine ps_if (S1 := (100, [], [], M21)) (S2 := (96, [(4, .ref o), (3, .ref ac), (2, .ref ox), (0, .ref c), (1, .ref vd)], [], M21)) rfl rfl rfl (fun c_93 => ?_) (fun c_93 => ?_)
      rotate_left
      · exact absurd (by decide) (of_decide_eq_false c_93)
      refine ps_st (S' := (101, [], [.int 0], M21)) rfl rfl rfl ?_
      exact ps_ret rfl rfl (Or.inr ⟨e36, by
          unfold s_chk
          rw [hq40]
          try dsimp only
          rw [hq48]
          try dsimp only
          rw [hq56]
          try dsimp only
          rw [hq64]
          try dsimp only
          rw [hq72]
          try dsimp only
          rw [q79_s]
          try dsimp only
          rw [q90_s]
          try dsimp only
          first | done | rfl, rfl, h37, h46, by omega⟩)
  · skip
    obtain ⟨e950, q79_s, rfl, h51, f52⟩ := q3
    have h54 := (f52.1 ox (nin3 (ob_ne h_ox h_ac (by decide)) (ob_ne h_ox h_vd (by decide)) (ob_ne h_ox h_c (by decide)))).trans h_ox
    have h55 := (f52.1 o (nin3 (ob_ne h_o h_ac (by decide)) (ob_ne h_o h_vd (by decide)) (ob_ne h_o h_c (by decide)))).trans h_o
    have h56 := (f52.1 b (nin3 (ob_ne h_b h_ac (by decide)) (ob_ne h_b h_vd (by decide)) (ob_ne h_b h_c (by decide)))).trans h_b
    have h57 := (f52.1 da (nin3 (Ne.symm (ob_ar h_ac h_da)) (Ne.symm (ob_ar h_vd h_da)) (Ne.symm (ob_ar h_c h_da)))).trans h_da
    have h58 := (f52.1 og (nin3 (ob_ne h_og h_ac (by decide)) (ob_ne h_og h_vd (by decide)) (ob_ne h_og h_c (by decide)))).trans h_og
    have tp60 : M2.2.1 = z0 := by rw [f52.2]; exact tp0
    have hV61 := hV.keep f52.gm (n7c h_ac (by decide) (n7c h_vd (by decide) (n7c h_c (by decide) (n7nil))))
    show pl _ _ _ (82, [(4, .ref o), (3, .ref ac), (2, .ref ox), (0, .ref c), (1, .ref vd)], [.int 0], M2) _
    clear h_ox h_ac h_o h_c h_b h_da h_vd h_og hV f52
    refine ps_if (S1 := (100, [], [], M2)) (S2 := (85, [(4, .ref o), (3, .ref ac), (2, .ref ox), (0, .ref c), (1, .ref vd)], [], M2)) rfl rfl rfl (fun c_82 => ?_) (fun c_82 => ?_)
    rotate_left
    · exact absurd (by decide) (of_decide_eq_false c_82)
    refine ps_st (S' := (101, [], [.int 0], M2)) rfl rfl rfl ?_
    exact ps_ret rfl rfl (Or.inr ⟨e950, by
        unfold s_chk
        rw [hq40]
        try dsimp only
        rw [hq48]
        try dsimp only
        rw [hq56]
        try dsimp only
        rw [hq64]
        try dsimp only
        rw [hq72]
        try dsimp only
        rw [q79_s]
        try dsimp only
        first | done | rfl, rfl, h51, h58, by omega⟩)
set_option maxHeartbeats 1000000 in
theorem dk_holds_b {g : xe_G} {M : mi_H} {f : Nat → Int32} {n N q : Nat} {E : List (Nat × Nat)} {ox ac o z9 c b da vd fr mr fa ic mj na pa e0 : Nat} {s1 mi ru wa k1 : Int32} {B1 B2 : List Nat} {G1 G2 : Nat → Nat} {og ga gf : Nat} {gn gw : Int32} {gk : Value} (h_ox : M.1 ox = some (ob 8 [.ref q, .int (nI mj), .ref vd])) (h_ac : M.1 ac = some (ob 0 [.ref c, .ref b, .ref q, .ref vd, .int s1])) (h_o : M.1 o = some (ob 2 [.ref c, .ref b, .ref q, .ref vd, .ref ac])) (h_c : M.1 c = some (ob 3 [.ref b, .ref q, .int mi, .int (nI mj), .int (nI fa), .int (nI ic), .ref fr, .ref mr, .int (nI na), .int (nI pa), .int k1, .int 0, .int 0, .int 0, .int 0, .int 0, .int (-1)])) (h_b : M.1 b = some (ob 1 [.ref da])) (h_da : M.1 da = some (ar .byte n f)) (h_vd : M.1 vd = some (ob 10 [.int ru, .int wa])) (h_og : M.1 og = some (ob 11 [.ref ga, .int gn, .ref gf, gk, .int gw])) (hn : n ≤ 65540) (hmj : mj < 65536) (hfa : fa + 8 ≤ n) (hic : fa + 8 + 2 * ic ≤ n) (hic2 : ic < 65536) (hna : na < 65536 ∧ pa ≤ n) (hat : s_atts f n na pa = .inr e0) (hB91 : B1.length < 65536) (hB92 : B2.length < 65536) (hB1 : ∀ i, i < B1.length → B1.getD i 0 + 8 ≤ n ∧ ∃ e0, s_atts f n (by2 f (B1.getD i 0 + 6)) (B1.getD i 0 + 8) = .inr e0) (hB2 : ∀ i, i < B2.length → B2.getD i 0 + 8 ≤ n ∧ ∃ e0, s_atts f n (by2 f (B2.getD i 0 + 6)) (B2.getD i 0 + 8) = .inr e0) (hDs : ∀ i j, i < B1.length → j < B2.length → ¬ G1 i = G2 j) (l_c : c < M.2.1) (l_b : b < M.2.1) (l_da : da < M.2.1) (l_vd : vd < M.2.1) (l_q : q < M.2.1) (l_og : og < M.2.1) (l_ox : ox < M.2.1) (l_ac : ac < M.2.1) (l_o : o < M.2.1) (hz9 : z9 ≤ M.2.1) (hq40 : chkP f n E mj (N - 1) 1 = none) (hq48 : hdS f n E fa = none) (hq56 : ifS f n E (fa + 8) ic 0 = none) (hV : PV g f n N E q M) (hM1 : MV f B1 fr G1 0 M) (hM2 : MV f B2 mr G2 0 M) (kf : Nat) : pl (mT g) kf (mb_11 g).2 (62, [(4, .ref o), (3, .ref ac), (2, .ref ox), (0, .ref c), (1, .ref vd)], [], M) (fun v M' => ((s_chk f n N E mj fa ic B1 B2 na pa = none) ∧ v = some (.int 1) ∧ M'.1 vd = some (ob 10 [.int ru, .int wa]) ∧ M'.1 og = some (ob 11 [.ref ga, .int gn, .ref gf, gk, .int gw]) ∧ z9 ≤ M'.2.1) ∨ (∃ (e9 : Nat × Nat), (s_chk f n N E mj fa ic B1 B2 na pa = some e9) ∧ v = some (.int 0) ∧ M'.1 vd = some (ob 10 [.int (nI e9.1), .int (nI e9.2)]) ∧ M'.1 og = some (ob 11 [.ref ga, .int gn, .ref gf, gk, .int gw]) ∧ z9 ≤ M'.2.1)) := by
  obtain ⟨z0, tp0⟩ : ∃ z0, M.2.1 = z0 := ⟨_, rfl⟩
  refine ps_st (S' := (64, [(4, .ref o), (3, .ref ac), (2, .ref ox), (0, .ref c), (1, .ref vd)], [.ref o], M)) rfl rfl rfl ?_
  refine pl_call (a := [.ref o]) (rest := []) rfl rfl rfl (dk_fieldsHold (f := f) (n := n) (N := N) (q := q) (E := E) (o := o) (c := c) (b := b) (da := da) (vd := vd) (ac := ac) (mr := mr) (fa := fa) (ic := ic) (mj := mj) (na := na) (pa := pa) (mi := mi) (ru := ru) (wa := wa) (k1 := k1) (k2 := 0) (k3 := 0) (k4 := 0) (k5 := 0) (k6 := 0) (k7 := (-1)) (ox := ox) (og := og) (ga := ga) (gf := gf) (gn := gn) (gw := gw) (gk := gk) (s1 := s1) (B := B1) (G := G1) (mm := fr) (B2 := B2) (G2 := G2) (m2 := mr) h_ox h_og h_o h_c h_b h_da h_vd h_ac (hn) (hmj) (hfa) (hB91) (hB1) (hDs) (by omega) (by omega) (by omega) (by omega) (by omega) (by omega) (by omega) (by omega) (by omega) (hV) (hM1) (hM2)) (fun v1 M2 q3 => ?_)
  rcases q3 with q3 | q3
  · skip
    obtain ⟨s24, q64_s, q64_V, q64_W, rfl, h5, h6, h7, h8, h9, h10, h11, h12, tp14⟩ := q3
    obtain ⟨t15, tp16⟩ : ∃ t9, M2.2.1 = t9 := ⟨_, rfl⟩
    rw [tp0, tp16] at tp14
    show pl _ _ _ (67, [(4, .ref o), (3, .ref ac), (2, .ref ox), (0, .ref c), (1, .ref vd)], [.int 1], M2) _
    refine ps_if (S1 := (100, [], [], M2)) (S2 := (70, [(4, .ref o), (3, .ref ac), (2, .ref ox), (0, .ref c), (1, .ref vd)], [], M2)) rfl rfl rfl (fun c_67 => ?_) (fun c_67 => ?_)
    · exact absurd (of_decide_eq_true c_67) (by decide)
    refine ps_st (S' := (72, [(4, .ref o), (3, .ref ac), (2, .ref ox), (0, .ref c), (1, .ref vd)], [.ref o], M2)) rfl rfl rfl ?_
    refine pl_call (a := [.ref o]) (rest := []) rfl rfl rfl (dk_methodsHold (f := f) (n := n) (N := N) (q := q) (E := E) (o := o) (c := c) (b := b) (da := da) (vd := vd) (ac := ac) (fr := fr) (fa := fa) (ic := ic) (mj := mj) (na := na) (pa := pa) (mi := mi) (ru := ru) (wa := wa) (k1 := k1) (k2 := 0) (k3 := 0) (k4 := 0) (k5 := 0) (k6 := 0) (k7 := (-1)) (ox := ox) (og := og) (ga := ga) (gf := gf) (gn := gn) (gw := gw) (gk := gk) (s1 := s24) (B := B2) (G := G2) (mm := mr) h5 h6 h7 h8 h9 h10 h11 h12 (hn) (hmj) (hfa) (hB92) (hB2) (by omega) (by omega) (by omega) (by omega) (by omega) (by omega) (by omega) (by omega) (by omega) (q64_V) (q64_W)) (fun v17 M18 q19 => ?_)
    rcases q19 with q19 | q19
    · skip
      obtain ⟨s220, q72_s, q72_V, rfl, h21, h22, h23, h24, h25, h26, h27, h28, tp30⟩ := q19
      obtain ⟨t31, tp32⟩ : ∃ t9, M18.2.1 = t9 := ⟨_, rfl⟩
      rw [tp16, tp32] at tp30
      show pl _ _ _ (75, [(4, .ref o), (3, .ref ac), (2, .ref ox), (0, .ref c), (1, .ref vd)], [.int 1], M18) _
      refine ps_if (S1 := (100, [], [], M18)) (S2 := (78, [(4, .ref o), (3, .ref ac), (2, .ref ox), (0, .ref c), (1, .ref vd)], [], M18)) rfl rfl rfl (fun c_75 => ?_) (fun c_75 => ?_)
      · exact absurd (of_decide_eq_true c_75) (by decide)
      exact dk_holds_c (z9 := z9) (e0 := e0) h21 h28 h23 h24 h25 h26 h27 h22 hn hmj hfa hic hic2 hna hat hB91 hB92 hB1 hB2 hDs (by omega) (by omega) (by omega) (by omega) (by omega) (by omega) (by omega) (by omega) (by omega) (by omega) hq40 hq48 hq56 q64_s q72_s q72_V kf
    · skip
      obtain ⟨e933, q72_s, rfl, h34, h35, tp37⟩ := q19
      obtain ⟨t38, tp39⟩ : ∃ t9, M18.2.1 = t9 := ⟨_, rfl⟩
      rw [tp16, tp39] at tp37
      show pl _ _ _ (75, [(4, .ref o), (3, .ref ac), (2, .ref ox), (0, .ref c), (1, .ref vd)], [.int 0], M18) _
      refine ps_if (S1 := (100, [], [], M18)) (S2 := (78, [(4, .ref o), (3, .ref ac), (2, .ref ox), (0, .ref c), (1, .ref vd)], [], M18)) rfl rfl rfl (fun c_75 => ?_) (fun c_75 => ?_)
      rotate_left
      · exact absurd (by decide) (of_decide_eq_false c_75)
      refine ps_st (S' := (101, [], [.int 0], M18)) rfl rfl rfl ?_
      exact ps_ret rfl rfl (Or.inr ⟨e933, by
          unfold s_chk
          rw [hq40]
          try dsimp only
          rw [hq48]
          try dsimp only
          rw [hq56]
          try dsimp only
          rw [q64_s]
          try dsimp only
          rw [q72_s]
          try dsimp only
          first | done | rfl, rfl, h34, h35, by omega⟩)
  · skip
    obtain ⟨e940, q64_s, rfl, h41, h42, tp44⟩ := q3
    obtain ⟨t45, tp46⟩ : ∃ t9, M2.2.1 = t9 := ⟨_, rfl⟩
    rw [tp0, tp46] at tp44
    show pl _ _ _ (67, [(4, .ref o), (3, .ref ac), (2, .ref ox), (0, .ref c), (1, .ref vd)], [.int 0], M2) _
    refine ps_if (S1 := (100, [], [], M2)) (S2 := (70, [(4, .ref o), (3, .ref ac), (2, .ref ox), (0, .ref c), (1, .ref vd)], [], M2)) rfl rfl rfl (fun c_67 => ?_) (fun c_67 => ?_)
    rotate_left
    · exact absurd (by decide) (of_decide_eq_false c_67)
    refine ps_st (S' := (101, [], [.int 0], M2)) rfl rfl rfl ?_
    exact ps_ret rfl rfl (Or.inr ⟨e940, by
        unfold s_chk
        rw [hq40]
        try dsimp only
        rw [hq48]
        try dsimp only
        rw [hq56]
        try dsimp only
        rw [q64_s]
        try dsimp only
        first | done | rfl, rfl, h41, h42, by omega⟩)
set_option maxHeartbeats 1000000 in
theorem dk_holds {g : xe_G} {M : mi_H} {f : Nat → Int32} {n N q : Nat} {E : List (Nat × Nat)} {c b da vd fr mr fa ic mj na pa e0 : Nat} {mi ru wa k1 : Int32} {B1 B2 : List Nat} {G1 G2 : Nat → Nat} {og ga gf : Nat} {gn gw : Int32} {gk : Value} (h_c : M.1 c = some (ob 3 [.ref b, .ref q, .int mi, .int (nI mj), .int (nI fa), .int (nI ic), .ref fr, .ref mr, .int (nI na), .int (nI pa), .int k1, .int 0, .int 0, .int 0, .int 0, .int 0, .int (-1)])) (h_b : M.1 b = some (ob 1 [.ref da])) (h_da : M.1 da = some (ar .byte n f)) (h_vd : M.1 vd = some (ob 10 [.int ru, .int wa])) (h_og : M.1 og = some (ob 11 [.ref ga, .int gn, .ref gf, gk, .int gw])) (hn : n ≤ 65540) (hmj : mj < 65536) (hfa : fa + 8 ≤ n) (hic : fa + 8 + 2 * ic ≤ n) (hic2 : ic < 65536) (hna : na < 65536 ∧ pa ≤ n) (hat : s_atts f n na pa = .inr e0) (hB91 : B1.length < 65536) (hB92 : B2.length < 65536) (hB1 : ∀ i, i < B1.length → B1.getD i 0 + 8 ≤ n ∧ ∃ e0, s_atts f n (by2 f (B1.getD i 0 + 6)) (B1.getD i 0 + 8) = .inr e0) (hB2 : ∀ i, i < B2.length → B2.getD i 0 + 8 ≤ n ∧ ∃ e0, s_atts f n (by2 f (B2.getD i 0 + 6)) (B2.getD i 0 + 8) = .inr e0) (hDs : ∀ i j, i < B1.length → j < B2.length → ¬ G1 i = G2 j) (l_c : c < M.2.1) (l_b : b < M.2.1) (l_da : da < M.2.1) (l_vd : vd < M.2.1) (l_q : q < M.2.1) (l_og : og < M.2.1) (hW : PW g f n N E q M) (hM1 : MV f B1 fr G1 0 M) (hM2 : MV f B2 mr G2 0 M) : pt (mT g) 11 [.ref c, .ref vd] M (fun v M' => ((s_chk f n N E mj fa ic B1 B2 na pa = none) ∧ v = some (.int 1) ∧ M'.1 vd = some (ob 10 [.int ru, .int wa]) ∧ M'.1 og = some (ob 11 [.ref ga, .int gn, .ref gf, gk, .int gw]) ∧ M.2.1 ≤ M'.2.1) ∨ (∃ (e9 : Nat × Nat), (s_chk f n N E mj fa ic B1 B2 na pa = some e9) ∧ v = some (.int 0) ∧ M'.1 vd = some (ob 10 [.int (nI e9.1), .int (nI e9.2)]) ∧ M'.1 og = some (ob 11 [.ref ga, .int gn, .ref gf, gk, .int gw]) ∧ M.2.1 ≤ M'.2.1)) := by
  refine pt_in (b := mb_11 g) rfl (fun kf => ?_)
  show pl (mT g) kf (mb_11 g).2 (0, [(0, .ref c), (1, .ref vd)], [], M) _
  obtain ⟨z0, tp0⟩ : ∃ z0, M.2.1 = z0 := ⟨_, rfl⟩
  obtain ⟨hL, H, m, qq, F, cc, hP, hT, hBd, hb, hVF, hD⟩ := hW
  have h_q := hP.1
  have h_qq_1 := hP.2.1 1 (by decide) (by decide)
  have h_qq_2 := hP.2.1 2 (by decide) (by decide)
  have h_qq_3 := hP.2.1 3 (by decide) (by decide)
  have h_qq_4 := hP.2.1 4 (by decide) (by decide)
  have h_qq_5 := hP.2.1 5 (by decide) (by decide)
  have h_qq_6 := hP.2.2
  have l_qq_1 := hBd.2 1 (by decide) (by decide)
  have l_qq_2 := hBd.2 2 (by decide) (by decide)
  have l_qq_3 := hBd.2 3 (by decide) (by decide)
  have l_qq_4 := hBd.2 4 (by decide) (by decide)
  have l_qq_5 := hBd.2 5 (by decide) (by decide)
  have l_qq_6 := hBd.2 6 (by decide) (by decide)
  have l_fr := hM1.1
  have l_mr := hM2.1
  refine ps_st (S' := (1, [(0, .ref c), (1, .ref vd)], [.ref c], M)) rfl rfl rfl ?_
  refine ps_get (S' := (4, [(0, .ref c), (1, .ref vd)], [.ref q], M)) rfl h_c rfl rfl ?_
  refine pl_call (a := [.ref q]) (rest := []) rfl rfl rfl (dk_describeTexts (f := f) (n := n) (N := N) (H := H) (m := m) (q := q) (E := E) (qq := qq) (F := F) (cc := cc) h_q h_qq_1 h_qq_2 h_qq_3 h_qq_4 h_qq_5 h_qq_6 (by omega) (hVF) (hD)) (fun v1 M2 q3 => ?_)
  obtain ⟨G54, q4_s, rfl, h5, f6⟩ := q3
  have h8 := (f6.1 c (nin1 (ob_ar h_c h_qq_5))).trans h_c
  have h9 := (f6.1 b (nin1 (ob_ar h_b h_qq_5))).trans h_b
  have h10 := (f6.1 da (nin1 (ar_ne h_da h_qq_5 (by decide)))).trans h_da
  have h11 := (f6.1 vd (nin1 (ob_ar h_vd h_qq_5))).trans h_vd
  have h12 := (f6.1 og (nin1 (ob_ar h_og h_qq_5))).trans h_og
  have h13 := (f6.1 q (nin1 (ob_ar h_q h_qq_5))).trans h_q
  have h14 := (f6.1 (qq 1) (nin1 (hD 1 (by decide) (by decide)))).trans h_qq_1
  have h15 := (f6.1 (qq 2) (nin1 (hD 2 (by decide) (by decide)))).trans h_qq_2
  have h16 := (f6.1 (qq 3) (nin1 (hD 3 (by decide) (by decide)))).trans h_qq_3
  have h17 := (f6.1 (qq 4) (nin1 (hD 4 (by decide) (by decide)))).trans h_qq_4
  have h18 := (f6.1 (qq 6) (nin1 (ar_ne h_qq_6 h_qq_5 (by decide)))).trans h_qq_6
  have tp20 : M2.2.1 = z0 := by rw [f6.2]; exact tp0
  show pl _ _ _ (7, [(0, .ref c), (1, .ref vd)], [], M2) _
  have hV21 := hM1.keepX f6.gm h_qq_5 (by decide)
  have hV22 := hM2.keepX f6.gm h_qq_5 (by decide)
  have hV23 := hL.keepX f6.gm h_qq_5
  have hV : PV g f n N E q M2 := PV_of hV23 (PL5 h13 h14 h15 h16 h17 h5 h18) hT hBd f6.2 hb hVF q4_s
  clear h_c h_b h_da h_vd h_og h_q h_qq_1 h_qq_2 h_qq_3 h_qq_4 h_qq_5 h_qq_6 hM1 hM2 hL f6
  refine ps_newz rfl tp20 (fun M24 h25 f26 tp27 => ?_)
  have h28 := (f26 c (show c ≠ z0 by omega)).trans h8
  have h29 := (f26 b (show b ≠ z0 by omega)).trans h9
  have h30 := (f26 da (show da ≠ z0 by omega)).trans h10
  have h31 := (f26 vd (show vd ≠ z0 by omega)).trans h11
  have h32 := (f26 og (show og ≠ z0 by omega)).trans h12
  have hV33 := hV.new tp20 f26 tp27
  have hV34 := hV21.new tp20 f26 tp27
  have hV35 := hV22.new tp20 f26 tp27
  clear h8 h9 h10 h11 h12 hV hV21 hV22 f26
  show pl _ _ _ (10, [(0, .ref c), (1, .ref vd)], [.ref z0], M24) _
  refine ps_st (S' := (11, [(0, .ref c), (1, .ref vd)], [.ref z0, .ref z0], M24)) rfl rfl rfl ?_
  refine ps_st (S' := (12, [(0, .ref c), (1, .ref vd)], [.ref c, .ref z0, .ref z0], M24)) rfl rfl rfl ?_
  refine ps_st (S' := (13, [(0, .ref c), (1, .ref vd)], [.ref vd, .ref c, .ref z0, .ref z0], M24)) rfl rfl rfl ?_
  refine pl_call (a := [.ref z0, .ref c, .ref vd]) (rest := [.ref z0]) rfl rfl rfl (dk_poolCheck0 (q := q) (c := c) (b := b) (fr := fr) (mr := mr) (fa := fa) (ic := ic) (mj := mj) (na := na) (pa := pa) (vd := vd) (o8 := z0) (mi := mi) (k1 := k1) (k2 := 0) (k3 := 0) (k4 := 0) (k5 := 0) (k6 := 0) (k7 := (-1)) h25 h28) (fun v37 M38 q39 => ?_)
  obtain ⟨rfl, h40, f41⟩ := q39
  have h43 := (f41.1 c (nin1 (show c ≠ z0 by omega))).trans h28
  have h44 := (f41.1 b (nin1 (show b ≠ z0 by omega))).trans h29
  have h45 := (f41.1 da (nin1 (show da ≠ z0 by omega))).trans h30
  have h46 := (f41.1 vd (nin1 (show vd ≠ z0 by omega))).trans h31
  have h47 := (f41.1 og (nin1 (show og ≠ z0 by omega))).trans h32
  have tp49 : M38.2.1 = z0 + 1 := by rw [f41.2]; exact tp27
  have hV50 := hV33.keep f41.gm (n7c h25 (by decide) (n7nil))
  have hV51 := hV34.keep f41.gm (n6o h25 (by decide) (n6on))
  have hV52 := hV35.keep f41.gm (n6o h25 (by decide) (n6on))
  show pl _ _ _ (16, [(0, .ref c), (1, .ref vd)], [.ref z0], M38) _
  clear h28 h29 h30 h31 h32 h25 hV33 hV34 hV35 f41
  refine ps_st (S' := (17, [(2, .ref z0), (0, .ref c), (1, .ref vd)], [], M38)) rfl rfl rfl ?_
  refine ps_newz rfl tp49 (fun M53 h54 f55 tp56 => ?_)
  have h57 := (f55 c (show c ≠ (z0 + 1) by omega)).trans h43
  have h58 := (f55 b (show b ≠ (z0 + 1) by omega)).trans h44
  have h59 := (f55 da (show da ≠ (z0 + 1) by omega)).trans h45
  have h60 := (f55 vd (show vd ≠ (z0 + 1) by omega)).trans h46
  have h61 := (f55 og (show og ≠ (z0 + 1) by omega)).trans h47
  have h62 := (f55 z0 (show z0 ≠ (z0 + 1) by omega)).trans h40
  have hV63 := hV50.new tp49 f55 tp56
  have hV64 := hV51.new tp49 f55 tp56
  have hV65 := hV52.new tp49 f55 tp56
  clear h43 h44 h45 h46 h47 h40 hV50 hV51 hV52 f55
  show pl _ _ _ (20, [(2, .ref z0), (0, .ref c), (1, .ref vd)], [.ref (z0 + 1)], M53) _
  refine ps_st (S' := (21, [(2, .ref z0), (0, .ref c), (1, .ref vd)], [.ref (z0 + 1), .ref (z0 + 1)], M53)) rfl rfl rfl ?_
  refine ps_st (S' := (22, [(2, .ref z0), (0, .ref c), (1, .ref vd)], [.ref c, .ref (z0 + 1), .ref (z0 + 1)], M53)) rfl rfl rfl ?_
  refine ps_st (S' := (23, [(2, .ref z0), (0, .ref c), (1, .ref vd)], [.ref vd, .ref c, .ref (z0 + 1), .ref (z0 + 1)], M53)) rfl rfl rfl ?_
  refine pl_call (a := [.ref (z0 + 1), .ref c, .ref vd]) (rest := [.ref (z0 + 1)]) rfl rfl rfl (dk_attrCheck0 (q := q) (c := c) (b := b) (fr := fr) (mr := mr) (fa := fa) (ic := ic) (mj := mj) (na := na) (pa := pa) (vd := vd) (o0 := (z0 + 1)) (mi := mi) (k1 := k1) (k2 := 0) (k3 := 0) (k4 := 0) (k5 := 0) (k6 := 0) (k7 := (-1)) h54 h57) (fun v67 M68 q69 => ?_)
  obtain ⟨rfl, h70, f71⟩ := q69
  have h73 := (f71.1 c (nin1 (show c ≠ (z0 + 1) by omega))).trans h57
  have h74 := (f71.1 b (nin1 (show b ≠ (z0 + 1) by omega))).trans h58
  have h75 := (f71.1 da (nin1 (show da ≠ (z0 + 1) by omega))).trans h59
  have h76 := (f71.1 vd (nin1 (show vd ≠ (z0 + 1) by omega))).trans h60
  have h77 := (f71.1 og (nin1 (show og ≠ (z0 + 1) by omega))).trans h61
  have h78 := (f71.1 z0 (nin1 (show z0 ≠ (z0 + 1) by omega))).trans h62
  have tp80 : M68.2.1 = z0 + 2 := by rw [f71.2]; exact tp56
  have hV81 := hV63.keep f71.gm (n7c h54 (by decide) (n7nil))
  have hV82 := hV64.keep f71.gm (n6o h54 (by decide) (n6on))
  have hV83 := hV65.keep f71.gm (n6o h54 (by decide) (n6on))
  show pl _ _ _ (26, [(2, .ref z0), (0, .ref c), (1, .ref vd)], [.ref (z0 + 1)], M68) _
  clear h57 h58 h59 h60 h61 h62 h54 hV63 hV64 hV65 f71
  refine ps_st (S' := (27, [(3, .ref (z0 + 1)), (2, .ref z0), (0, .ref c), (1, .ref vd)], [], M68)) rfl rfl rfl ?_
  refine ps_newz rfl tp80 (fun M84 h85 f86 tp87 => ?_)
  have h88 := (f86 c (show c ≠ (z0 + 2) by omega)).trans h73
  have h89 := (f86 b (show b ≠ (z0 + 2) by omega)).trans h74
  have h90 := (f86 da (show da ≠ (z0 + 2) by omega)).trans h75
  have h91 := (f86 vd (show vd ≠ (z0 + 2) by omega)).trans h76
  have h92 := (f86 og (show og ≠ (z0 + 2) by omega)).trans h77
  have h93 := (f86 z0 (show z0 ≠ (z0 + 2) by omega)).trans h78
  have h94 := (f86 (z0 + 1) (show (z0 + 1) ≠ (z0 + 2) by omega)).trans h70
  have hV95 := hV81.new tp80 f86 tp87
  have hV96 := hV82.new tp80 f86 tp87
  have hV97 := hV83.new tp80 f86 tp87
  clear h73 h74 h75 h76 h77 h78 h70 hV81 hV82 hV83 f86
  show pl _ _ _ (30, [(3, .ref (z0 + 1)), (2, .ref z0), (0, .ref c), (1, .ref vd)], [.ref (z0 + 2)], M84) _
  refine ps_st (S' := (31, [(3, .ref (z0 + 1)), (2, .ref z0), (0, .ref c), (1, .ref vd)], [.ref (z0 + 2), .ref (z0 + 2)], M84)) rfl rfl rfl ?_
  refine ps_st (S' := (32, [(3, .ref (z0 + 1)), (2, .ref z0), (0, .ref c), (1, .ref vd)], [.ref c, .ref (z0 + 2), .ref (z0 + 2)], M84)) rfl rfl rfl ?_
  refine ps_st (S' := (33, [(3, .ref (z0 + 1)), (2, .ref z0), (0, .ref c), (1, .ref vd)], [.ref vd, .ref c, .ref (z0 + 2), .ref (z0 + 2)], M84)) rfl rfl rfl ?_
  refine ps_st (S' := (34, [(3, .ref (z0 + 1)), (2, .ref z0), (0, .ref c), (1, .ref vd)], [.ref (z0 + 1), .ref vd, .ref c, .ref (z0 + 2), .ref (z0 + 2)], M84)) rfl rfl rfl ?_
  refine pl_call (a := [.ref (z0 + 2), .ref c, .ref vd, .ref (z0 + 1)]) (rest := [.ref (z0 + 2)]) rfl rfl rfl (dk_classCheck0 (q := q) (c := c) (b := b) (fr := fr) (mr := mr) (fa := fa) (ic := ic) (mj := mj) (na := na) (pa := pa) (vd := vd) (o2 := (z0 + 2)) (ac := (z0 + 1)) (mi := mi) (k1 := k1) (k2 := 0) (k3 := 0) (k4 := 0) (k5 := 0) (k6 := 0) (k7 := (-1)) h85 h88) (fun v99 M100 q101 => ?_)
  obtain ⟨rfl, h102, f103⟩ := q101
  have h105 := (f103.1 c (nin1 (show c ≠ (z0 + 2) by omega))).trans h88
  have h106 := (f103.1 b (nin1 (show b ≠ (z0 + 2) by omega))).trans h89
  have h107 := (f103.1 da (nin1 (show da ≠ (z0 + 2) by omega))).trans h90
  have h108 := (f103.1 vd (nin1 (show vd ≠ (z0 + 2) by omega))).trans h91
  have h109 := (f103.1 og (nin1 (show og ≠ (z0 + 2) by omega))).trans h92
  have h110 := (f103.1 z0 (nin1 (show z0 ≠ (z0 + 2) by omega))).trans h93
  have h111 := (f103.1 (z0 + 1) (nin1 (show (z0 + 1) ≠ (z0 + 2) by omega))).trans h94
  have tp113 : M100.2.1 = z0 + 3 := by rw [f103.2]; exact tp87
  have hV114 := hV95.keep f103.gm (n7c h85 (by decide) (n7nil))
  have hV115 := hV96.keep f103.gm (n6o h85 (by decide) (n6on))
  have hV116 := hV97.keep f103.gm (n6o h85 (by decide) (n6on))
  show pl _ _ _ (37, [(3, .ref (z0 + 1)), (2, .ref z0), (0, .ref c), (1, .ref vd)], [.ref (z0 + 2)], M100) _
  clear h88 h89 h90 h91 h92 h93 h94 h85 hV95 hV96 hV97 f103
  refine ps_st (S' := (39, [(4, .ref (z0 + 2)), (3, .ref (z0 + 1)), (2, .ref z0), (0, .ref c), (1, .ref vd)], [], M100)) rfl rfl rfl ?_
  refine ps_st (S' := (40, [(4, .ref (z0 + 2)), (3, .ref (z0 + 1)), (2, .ref z0), (0, .ref c), (1, .ref vd)], [.ref z0], M100)) rfl rfl rfl ?_
  refine pl_call (a := [.ref z0]) (rest := []) rfl rfl rfl (dk_entriesHold (f := f) (n := n) (N := N) (q := q) (E := E) (o := z0) (vd := vd) (mj := mj) (ru := ru) (wa := wa) h110 h108 (hmj) (hV114)) (fun v117 M118 q119 => ?_)
  rcases q119 with q119 | q119
  · skip
    obtain ⟨q40_s, rfl, h120, f121⟩ := q119
    have h123 := (f121.1 c (nin1 (ob_ne h105 h108 (by decide)))).trans h105
    have h124 := (f121.1 b (nin1 (ob_ne h106 h108 (by decide)))).trans h106
    have h125 := (f121.1 da (nin1 (Ne.symm (ob_ar h108 h107)))).trans h107
    have h126 := (f121.1 og (nin1 (ob_ne h109 h108 (by decide)))).trans h109
    have h127 := (f121.1 z0 (nin1 (show z0 ≠ vd by omega))).trans h110
    have h128 := (f121.1 (z0 + 1) (nin1 (show (z0 + 1) ≠ vd by omega))).trans h111
    have h129 := (f121.1 (z0 + 2) (nin1 (show (z0 + 2) ≠ vd by omega))).trans h102
    have tp131 : M118.2.1 = z0 + 3 := by rw [f121.2]; exact tp113
    have hV132 := hV114.keep f121.gm (n7c h108 (by decide) (n7nil))
    have hV133 := hV115.keep f121.gm (n6o h108 (by decide) (n6on))
    have hV134 := hV116.keep f121.gm (n6o h108 (by decide) (n6on))
    show pl _ _ _ (43, [(4, .ref (z0 + 2)), (3, .ref (z0 + 1)), (2, .ref z0), (0, .ref c), (1, .ref vd)], [.int 1], M118) _
    clear h105 h106 h107 h108 h109 h110 h111 h102 hV114 hV115 hV116 f121
    refine ps_if (S1 := (100, [], [], M118)) (S2 := (46, [(4, .ref (z0 + 2)), (3, .ref (z0 + 1)), (2, .ref z0), (0, .ref c), (1, .ref vd)], [], M118)) rfl rfl rfl (fun c_43 => ?_) (fun c_43 => ?_)
    · exact absurd (of_decide_eq_true c_43) (by decide)
    refine ps_st (S' := (48, [(4, .ref (z0 + 2)), (3, .ref (z0 + 1)), (2, .ref z0), (0, .ref c), (1, .ref vd)], [.ref (z0 + 2)], M118)) rfl rfl rfl ?_
    refine pl_call (a := [.ref (z0 + 2)]) (rest := []) rfl rfl rfl (dk_headHolds (f := f) (n := n) (N := N) (q := q) (E := E) (o := (z0 + 2)) (c := c) (b := b) (da := da) (vd := vd) (ac := (z0 + 1)) (fr := fr) (mr := mr) (fa := fa) (ic := ic) (mj := mj) (na := na) (pa := pa) (mi := mi) (ru := ru) (wa := wa) (k1 := k1) (k2 := 0) (k3 := 0) (k4 := 0) (k5 := 0) (k6 := 0) (k7 := (-1)) h129 h123 h124 h125 h120 (hn) (hmj) (hfa) (hV132)) (fun v135 M136 q137 => ?_)
    rcases q137 with q137 | q137
    · skip
      obtain ⟨q48_s, rfl, h138, f139⟩ := q137
      have h141 := (f139.1 c (nin1 (ob_ne h123 h120 (by decide)))).trans h123
      have h142 := (f139.1 b (nin1 (ob_ne h124 h120 (by decide)))).trans h124
      have h143 := (f139.1 da (nin1 (Ne.symm (ob_ar h120 h125)))).trans h125
      have h144 := (f139.1 og (nin1 (ob_ne h126 h120 (by decide)))).trans h126
      have h145 := (f139.1 z0 (nin1 (show z0 ≠ vd by omega))).trans h127
      have h146 := (f139.1 (z0 + 1) (nin1 (show (z0 + 1) ≠ vd by omega))).trans h128
      have h147 := (f139.1 (z0 + 2) (nin1 (show (z0 + 2) ≠ vd by omega))).trans h129
      have tp149 : M136.2.1 = z0 + 3 := by rw [f139.2]; exact tp131
      have hV150 := hV132.keep f139.gm (n7c h120 (by decide) (n7nil))
      have hV151 := hV133.keep f139.gm (n6o h120 (by decide) (n6on))
      have hV152 := hV134.keep f139.gm (n6o h120 (by decide) (n6on))
      show pl _ _ _ (51, [(4, .ref (z0 + 2)), (3, .ref (z0 + 1)), (2, .ref z0), (0, .ref c), (1, .ref vd)], [.int 1], M136) _
      clear h123 h124 h125 h120 h126 h127 h128 h129 hV132 hV133 hV134 f139
      refine ps_if (S1 := (100, [], [], M136)) (S2 := (54, [(4, .ref (z0 + 2)), (3, .ref (z0 + 1)), (2, .ref z0), (0, .ref c), (1, .ref vd)], [], M136)) rfl rfl rfl (fun c_51 => ?_) (fun c_51 => ?_)
      · exact absurd (of_decide_eq_true c_51) (by decide)
      refine ps_st (S' := (56, [(4, .ref (z0 + 2)), (3, .ref (z0 + 1)), (2, .ref z0), (0, .ref c), (1, .ref vd)], [.ref (z0 + 2)], M136)) rfl rfl rfl ?_
      refine pl_call (a := [.ref (z0 + 2)]) (rest := []) rfl rfl rfl (dk_interfacesHold (f := f) (n := n) (N := N) (q := q) (E := E) (o := (z0 + 2)) (c := c) (b := b) (da := da) (vd := vd) (ac := (z0 + 1)) (fr := fr) (mr := mr) (fa := fa) (ic := ic) (mj := mj) (na := na) (pa := pa) (mi := mi) (ru := ru) (wa := wa) (k1 := k1) (k2 := 0) (k3 := 0) (k4 := 0) (k5 := 0) (k6 := 0) (k7 := (-1)) h147 h141 h142 h143 h138 (hn) (hmj) (hfa) (hic) (hV150)) (fun v153 M154 q155 => ?_)
      rcases q155 with q155 | q155
      · skip
        obtain ⟨q56_s, rfl, h156, f157⟩ := q155
        have h159 := (f157.1 c (nin1 (ob_ne h141 h138 (by decide)))).trans h141
        have h160 := (f157.1 b (nin1 (ob_ne h142 h138 (by decide)))).trans h142
        have h161 := (f157.1 da (nin1 (Ne.symm (ob_ar h138 h143)))).trans h143
        have h162 := (f157.1 og (nin1 (ob_ne h144 h138 (by decide)))).trans h144
        have h163 := (f157.1 z0 (nin1 (show z0 ≠ vd by omega))).trans h145
        have h164 := (f157.1 (z0 + 1) (nin1 (show (z0 + 1) ≠ vd by omega))).trans h146
        have h165 := (f157.1 (z0 + 2) (nin1 (show (z0 + 2) ≠ vd by omega))).trans h147
        have tp167 : M154.2.1 = z0 + 3 := by rw [f157.2]; exact tp149
        have hV168 := hV150.keep f157.gm (n7c h138 (by decide) (n7nil))
        have hV169 := hV151.keep f157.gm (n6o h138 (by decide) (n6on))
        have hV170 := hV152.keep f157.gm (n6o h138 (by decide) (n6on))
        show pl _ _ _ (59, [(4, .ref (z0 + 2)), (3, .ref (z0 + 1)), (2, .ref z0), (0, .ref c), (1, .ref vd)], [.int 1], M154) _
        clear h141 h142 h143 h138 h144 h145 h146 h147 hV150 hV151 hV152 f157
        refine ps_if (S1 := (100, [], [], M154)) (S2 := (62, [(4, .ref (z0 + 2)), (3, .ref (z0 + 1)), (2, .ref z0), (0, .ref c), (1, .ref vd)], [], M154)) rfl rfl rfl (fun c_59 => ?_) (fun c_59 => ?_)
        · exact absurd (of_decide_eq_true c_59) (by decide)
        exact dk_holds_b (z9 := M.2.1) (e0 := e0) h163 h164 h165 h159 h160 h161 h156 h162 hn hmj hfa hic hic2 hna hat hB91 hB92 hB1 hB2 hDs (by omega) (by omega) (by omega) (by omega) (by omega) (by omega) (by omega) (by omega) (by omega) (by omega) q40_s q48_s q56_s hV168 hV169 hV170 kf
      · skip
        obtain ⟨e171, q56_s, rfl, h172, f173⟩ := q155
        have h175 := (f173.1 c (nin1 (ob_ne h141 h138 (by decide)))).trans h141
        have h176 := (f173.1 b (nin1 (ob_ne h142 h138 (by decide)))).trans h142
        have h177 := (f173.1 da (nin1 (Ne.symm (ob_ar h138 h143)))).trans h143
        have h178 := (f173.1 og (nin1 (ob_ne h144 h138 (by decide)))).trans h144
        have h179 := (f173.1 z0 (nin1 (show z0 ≠ vd by omega))).trans h145
        have h180 := (f173.1 (z0 + 1) (nin1 (show (z0 + 1) ≠ vd by omega))).trans h146
        have h181 := (f173.1 (z0 + 2) (nin1 (show (z0 + 2) ≠ vd by omega))).trans h147
        have tp183 : M154.2.1 = z0 + 3 := by rw [f173.2]; exact tp149
        have hV184 := hV150.keep f173.gm (n7c h138 (by decide) (n7nil))
        have hV185 := hV151.keep f173.gm (n6o h138 (by decide) (n6on))
        have hV186 := hV152.keep f173.gm (n6o h138 (by decide) (n6on))
        show pl _ _ _ (59, [(4, .ref (z0 + 2)), (3, .ref (z0 + 1)), (2, .ref z0), (0, .ref c), (1, .ref vd)], [.int 0], M154) _
        clear h141 h142 h143 h138 h144 h145 h146 h147 hV150 hV151 hV152 f173
        refine ps_if (S1 := (100, [], [], M154)) (S2 := (62, [(4, .ref (z0 + 2)), (3, .ref (z0 + 1)), (2, .ref z0), (0, .ref c), (1, .ref vd)], [], M154)) rfl rfl rfl (fun c_59 => ?_) (fun c_59 => ?_)
        rotate_left
        · exact absurd (by decide) (of_decide_eq_false c_59)
        refine ps_st (S' := (101, [], [.int 0], M154)) rfl rfl rfl ?_
        exact ps_ret rfl rfl (Or.inr ⟨e171, by
            unfold s_chk
            rw [q40_s]
            try dsimp only
            rw [q48_s]
            try dsimp only
            rw [q56_s]
            try dsimp only
            first | done | rfl, rfl, h172, h178, by omega⟩)
    · skip
      obtain ⟨e187, q48_s, rfl, h188, f189⟩ := q137
      have h191 := (f189.1 c (nin1 (ob_ne h123 h120 (by decide)))).trans h123
      have h192 := (f189.1 b (nin1 (ob_ne h124 h120 (by decide)))).trans h124
      have h193 := (f189.1 da (nin1 (Ne.symm (ob_ar h120 h125)))).trans h125
      have h194 := (f189.1 og (nin1 (ob_ne h126 h120 (by decide)))).trans h126
      have h195 := (f189.1 z0 (nin1 (show z0 ≠ vd by omega))).trans h127
      have h196 := (f189.1 (z0 + 1) (nin1 (show (z0 + 1) ≠ vd by omega))).trans h128
      have h197 := (f189.1 (z0 + 2) (nin1 (show (z0 + 2) ≠ vd by omega))).trans h129
      have tp199 : M136.2.1 = z0 + 3 := by rw [f189.2]; exact tp131
      have hV200 := hV132.keep f189.gm (n7c h120 (by decide) (n7nil))
      have hV201 := hV133.keep f189.gm (n6o h120 (by decide) (n6on))
      have hV202 := hV134.keep f189.gm (n6o h120 (by decide) (n6on))
      show pl _ _ _ (51, [(4, .ref (z0 + 2)), (3, .ref (z0 + 1)), (2, .ref z0), (0, .ref c), (1, .ref vd)], [.int 0], M136) _
      clear h123 h124 h125 h120 h126 h127 h128 h129 hV132 hV133 hV134 f189
      refine ps_if (S1 := (100, [], [], M136)) (S2 := (54, [(4, .ref (z0 + 2)), (3, .ref (z0 + 1)), (2, .ref z0), (0, .ref c), (1, .ref vd)], [], M136)) rfl rfl rfl (fun c_51 => ?_) (fun c_51 => ?_)
      rotate_left
      · exact absurd (by decide) (of_decide_eq_false c_51)
      refine ps_st (S' := (101, [], [.int 0], M136)) rfl rfl rfl ?_
      exact ps_ret rfl rfl (Or.inr ⟨e187, by
          unfold s_chk
          rw [q40_s]
          try dsimp only
          rw [q48_s]
          try dsimp only
          first | done | rfl, rfl, h188, h194, by omega⟩)
  · skip
    obtain ⟨e203, q40_s, rfl, h204, f205⟩ := q119
    have h207 := (f205.1 c (nin1 (ob_ne h105 h108 (by decide)))).trans h105
    have h208 := (f205.1 b (nin1 (ob_ne h106 h108 (by decide)))).trans h106
    have h209 := (f205.1 da (nin1 (Ne.symm (ob_ar h108 h107)))).trans h107
    have h210 := (f205.1 og (nin1 (ob_ne h109 h108 (by decide)))).trans h109
    have h211 := (f205.1 z0 (nin1 (show z0 ≠ vd by omega))).trans h110
    have h212 := (f205.1 (z0 + 1) (nin1 (show (z0 + 1) ≠ vd by omega))).trans h111
    have h213 := (f205.1 (z0 + 2) (nin1 (show (z0 + 2) ≠ vd by omega))).trans h102
    have tp215 : M118.2.1 = z0 + 3 := by rw [f205.2]; exact tp113
    have hV216 := hV114.keep f205.gm (n7c h108 (by decide) (n7nil))
    have hV217 := hV115.keep f205.gm (n6o h108 (by decide) (n6on))
    have hV218 := hV116.keep f205.gm (n6o h108 (by decide) (n6on))
    show pl _ _ _ (43, [(4, .ref (z0 + 2)), (3, .ref (z0 + 1)), (2, .ref z0), (0, .ref c), (1, .ref vd)], [.int 0], M118) _
    clear h105 h106 h107 h108 h109 h110 h111 h102 hV114 hV115 hV116 f205
    refine ps_if (S1 := (100, [], [], M118)) (S2 := (46, [(4, .ref (z0 + 2)), (3, .ref (z0 + 1)), (2, .ref z0), (0, .ref c), (1, .ref vd)], [], M118)) rfl rfl rfl (fun c_43 => ?_) (fun c_43 => ?_)
    rotate_left
    · exact absurd (by decide) (of_decide_eq_false c_43)
    refine ps_st (S' := (101, [], [.int 0], M118)) rfl rfl rfl ?_
    exact ps_ret rfl rfl (Or.inr ⟨e203, by
        unfold s_chk
        rw [q40_s]
        try dsimp only
        first | done | rfl, rfl, h204, h210, by omega⟩)
set_option maxHeartbeats 1000000 in
theorem dk_isWhole {g : xe_G} {M : mi_H} {f : Nat → Int32} {n c b da vd : Nat} {ru wa mi ma fa ic ac aa k1 k2 k3 k4 k5 k6 k7 : Int32} {u1 u6 u7 : Value} {og ga gf : Nat} {gn gw : Int32} {gk : Value} (h_c : M.1 c = some (ob 3 [.ref b, u1, .int mi, .int ma, .int fa, .int ic, u6, u7, .int ac, .int aa, .int k1, .int k2, .int k3, .int k4, .int k5, .int k6, .int k7])) (h_b : M.1 b = some (ob 1 [.ref da])) (h_da : M.1 da = some (ar .byte n f)) (h_vd : M.1 vd = some (ob 10 [.int ru, .int wa])) (h_og : M.1 og = some (ob 11 [.ref ga, .int gn, .ref gf, gk, .int gw])) (hn : n ≤ 65540) (l_c : c < M.2.1) (l_b : b < M.2.1) (l_da : da < M.2.1) (l_vd : vd < M.2.1) (l_og : og < M.2.1) (hL : LT g M) : pt (mT g) 13 [.ref c, .ref vd] M (fun v M' => (∃ (E : List (Nat × Nat)) (q p1 pF pM pA m1 m2 : Nat) (G1 G2 : Nat → Nat), (s_whole f n = .inr (E, p1, pF, pM, pA)) ∧ (q < M'.2.1 ∧ pF + 2 ≤ n ∧ pM + 2 ≤ n) ∧ (s_class f n p1 = .inr pF) ∧ (s_mbs f n pF = .inr pM) ∧ (s_mbs f n pM = .inr pA) ∧ (s_attributes f n pA = .inr n) ∧ (PW g f n (by2 f 8) E q M') ∧ (MV f (mbs f n (by2 f pF) (pF + 2)) m1 G1 0 M') ∧ (MV f (mbs f n (by2 f pM) (pM + 2)) m2 G2 0 M') ∧ (∀ i j, i < (mbs f n (by2 f pF) (pF + 2)).length → j < (mbs f n (by2 f pM) (pM + 2)).length → ¬ G1 i = G2 j) ∧ v = some (.int 1) ∧ M'.1 c = some (ob 3 [.ref b, .ref q, .int (nI (by2 f 4)), .int (nI (by2 f 6)), .int (nI p1), .int (nI (by2 f (p1 + 6))), .ref m1, .ref m2, .int (nI (by2 f pA)), .int (nI (pA + 2)), .int k1, .int k2, .int k3, .int k4, .int k5, .int k6, .int k7]) ∧ M'.1 b = some (ob 1 [.ref da]) ∧ M'.1 da = some (ar .byte n f) ∧ M'.1 vd = some (ob 10 [.int ru, .int wa]) ∧ M'.1 og = some (ob 11 [.ref ga, .int gn, .ref gf, gk, .int gw]) ∧ M.2.1 ≤ M'.2.1) ∨ (∃ (e9 : Nat × Nat), (s_whole f n = .inl e9) ∧ v = some (.int 0) ∧ M'.1 vd = some (ob 10 [.int (nI e9.1), .int (nI e9.2)]) ∧ M'.1 og = some (ob 11 [.ref ga, .int gn, .ref gf, gk, .int gw]) ∧ M.2.1 ≤ M'.2.1)) := by
  refine pt_in (b := mb_13 g) rfl (fun kf => ?_)
  show pl (mT g) kf (mb_13 g).2 (0, [(0, .ref c), (1, .ref vd)], [], M) _
  obtain ⟨z0, tp0⟩ : ∃ z0, M.2.1 = z0 := ⟨_, rfl⟩
  refine ps_newz rfl tp0 (fun M1 h2 f3 tp4 => ?_)
  have h5 := (f3 c (show c ≠ z0 by omega)).trans h_c
  have h6 := (f3 b (show b ≠ z0 by omega)).trans h_b
  have h7 := (f3 da (show da ≠ z0 by omega)).trans h_da
  have h8 := (f3 vd (show vd ≠ z0 by omega)).trans h_vd
  have h9 := (f3 og (show og ≠ z0 by omega)).trans h_og
  have hV10 := hL.new tp0 f3 tp4
  clear h_c h_b h_da h_vd h_og hL f3
  show pl _ _ _ (3, [(0, .ref c), (1, .ref vd)], [.ref z0], M1) _
  refine ps_st (S' := (4, [(0, .ref c), (1, .ref vd)], [.ref z0, .ref z0], M1)) rfl rfl rfl ?_
  refine ps_st (S' := (5, [(0, .ref c), (1, .ref vd)], [.ref c, .ref z0, .ref z0], M1)) rfl rfl rfl ?_
  refine ps_st (S' := (6, [(0, .ref c), (1, .ref vd)], [.ref vd, .ref c, .ref z0, .ref z0], M1)) rfl rfl rfl ?_
  refine pl_call (a := [.ref z0, .ref c, .ref vd]) (rest := [.ref z0]) rfl rfl rfl (dk_reader0 (o9 := z0) (vd := vd) (c := c) (b := b) (mi := mi) (ma := ma) (fa := fa) (ic := ic) (ac := ac) (aa := aa) (k1 := k1) (k2 := k2) (k3 := k3) (k4 := k4) (k5 := k5) (k6 := k6) (k7 := k7) (u1 := u1) (u6 := u6) (u7 := u7) h2 h5) (fun v12 M13 q14 => ?_)
  obtain ⟨rfl, h15, f16⟩ := q14
  have h18 := (f16.1 c (nin1 (show c ≠ z0 by omega))).trans h5
  have h19 := (f16.1 b (nin1 (show b ≠ z0 by omega))).trans h6
  have h20 := (f16.1 da (nin1 (show da ≠ z0 by omega))).trans h7
  have h21 := (f16.1 vd (nin1 (show vd ≠ z0 by omega))).trans h8
  have h22 := (f16.1 og (nin1 (show og ≠ z0 by omega))).trans h9
  have tp24 : M13.2.1 = z0 + 1 := by rw [f16.2]; exact tp4
  have hV25 := hV10.keep f16.gm (n7c h2 (by decide) (n7nil))
  show pl _ _ _ (9, [(0, .ref c), (1, .ref vd)], [.ref z0], M13) _
  clear h5 h6 h7 h8 h9 h2 hV10 f16
  refine ps_st (S' := (10, [(2, .ref z0), (0, .ref c), (1, .ref vd)], [], M13)) rfl rfl rfl ?_
  refine ps_st (S' := (11, [(2, .ref z0), (0, .ref c), (1, .ref vd)], [.ref z0], M13)) rfl rfl rfl ?_
  refine pl_call (a := [.ref z0]) (rest := []) rfl rfl rfl (dk_takesHead (r := z0) (c := c) (b := b) (vd := vd) (da := da) (n := n) (f := f) (it := 0) (ru := ru) (wa := wa) (mi := mi) (ma := ma) (fa := fa) (ic := ic) (ac := ac) (aa := aa) (k1 := k1) (k2 := k2) (k3 := k3) (k4 := k4) (k5 := k5) (k6 := k6) (k7 := k7) (u1 := u1) (u6 := u6) (u7 := u7) h15 h19 h20 h21 h18 (hn)) (fun v26 M27 q28 => ?_)
  rcases q28 with q28 | q28
  · skip
    obtain ⟨q11_s, rfl, h29, h30, h31, f32⟩ := q28
    have h34 := (f32.1 b (nin3 (show b ≠ z0 by omega) (ob_ne h19 h21 (by decide)) (ob_ne h19 h18 (by decide)))).trans h19
    have h35 := (f32.1 da (nin3 (show da ≠ z0 by omega) (Ne.symm (ob_ar h21 h20)) (Ne.symm (ob_ar h18 h20)))).trans h20
    have h36 := (f32.1 og (nin3 (show og ≠ z0 by omega) (ob_ne h22 h21 (by decide)) (ob_ne h22 h18 (by decide)))).trans h22
    have tp38 : M27.2.1 = z0 + 1 := by rw [f32.2]; exact tp24
    have hV39 := hV25.keep f32.gm (n7c h15 (by decide) (n7c h21 (by decide) (n7c h18 (by decide) (n7nil))))
    show pl _ _ _ (14, [(2, .ref z0), (0, .ref c), (1, .ref vd)], [.int 1], M27) _
    have h8 := s_head_8 q11_s
    clear h18 h19 h20 h21 h22 h15 hV25 f32
    refine ps_if (S1 := (56, [], [], M27)) (S2 := (17, [(2, .ref z0), (0, .ref c), (1, .ref vd)], [], M27)) rfl rfl rfl (fun c_14 => ?_) (fun c_14 => ?_)
    · exact absurd (of_decide_eq_true c_14) (by decide)
    refine ps_st (S' := (18, [(2, .ref z0), (0, .ref c), (1, .ref vd)], [.ref z0], M27)) rfl rfl rfl ?_
    refine pl_call (a := [.ref z0]) (rest := []) rfl rfl rfl (dk_takesPool (r := z0) (c := c) (b := b) (vd := vd) (da := da) (n := n) (mj := (by2 f 6)) (f := f) (it := (nI (by2 f 6))) (ru := ru) (wa := wa) (mi := (nI (by2 f 4))) (fa := fa) (ic := ic) (ac := ac) (aa := aa) (k1 := k1) (k2 := k2) (k3 := k3) (k4 := k4) (k5 := k5) (k6 := k6) (k7 := k7) (u1 := u1) (u6 := u6) (u7 := u7) h29 h34 h35 h30 h31 (hn) (h8) (by2_lt _ _) (by omega) (by omega) (by omega) (by omega) (by omega)) (fun v40 M41 q42 => ?_)
    rcases q42 with q42 | q42
    · skip
      obtain ⟨p'43, cc44, it'45, E46, F147, F248, F349, F450, F651, q18_s, q18_c, q18_e, q18_h, rfl, h52, h53, h54, h55, h56, h57, h58, h59, h60, h61, f62, tp63⟩ := q42
      rw [tp38] at h54 h55 h56 h57 h58 h59 h60 h61 tp63
      have h64 := (f62.1 b (by omega) (nin3 (show b ≠ z0 by omega) (ob_ne h34 h30 (by decide)) (ob_ne h34 h31 (by decide)))).trans h34
      have h65 := (f62.1 da (by omega) (nin3 (show da ≠ z0 by omega) (Ne.symm (ob_ar h30 h35)) (Ne.symm (ob_ar h31 h35)))).trans h35
      have h66 := (f62.1 og (by omega) (nin3 (show og ≠ z0 by omega) (ob_ne h36 h30 (by decide)) (ob_ne h36 h31 (by decide)))).trans h36
      have hV68 := hV39.keep f62 (n7c h29 (by decide) (n7c h30 (by decide) (n7c h31 (by decide) (n7nil))))
      show pl _ _ _ (21, [(2, .ref z0), (0, .ref c), (1, .ref vd)], [.int 1], M41) _
      have hW := PW_of hV68 hn q18_s q18_c q18_e q18_h h55 h56 h57 h58 h59 h60 h61 (by omega)
      clear h31 h34 h35 h30 h36 h29 hV39 f62
      refine ps_if (S1 := (56, [], [], M41)) (S2 := (24, [(2, .ref z0), (0, .ref c), (1, .ref vd)], [], M41)) rfl rfl rfl (fun c_21 => ?_) (fun c_21 => ?_)
      · exact absurd (of_decide_eq_true c_21) (by decide)
      refine ps_st (S' := (25, [(2, .ref z0), (0, .ref c), (1, .ref vd)], [.ref z0], M41)) rfl rfl rfl ?_
      refine pl_call (a := [.ref z0]) (rest := []) rfl rfl rfl (dk_takesClass (r := z0) (c := c) (b := b) (vd := vd) (da := da) (n := n) (p := p'43) (q := (z0 + 1)) (f := f) (it := it'45) (ru := ru) (wa := wa) (mi := (nI (by2 f 4))) (ma := (nI (by2 f 6))) (fa := fa) (ic := ic) (ac := ac) (aa := aa) (k1 := k1) (k2 := k2) (k3 := k3) (k4 := k4) (k5 := k5) (k6 := k6) (k7 := k7) (u6 := u6) (u7 := u7) h52 h64 h65 h53 h54 (hn) (by omega)) (fun v69 M70 q71 => ?_)
      rcases q71 with q71 | q71
      · skip
        obtain ⟨p'72, it'73, q25_s, rfl, h74, h75, h76, f77⟩ := q71
        have h79 := (f77.1 b (nin3 (show b ≠ z0 by omega) (ob_ne h64 h53 (by decide)) (ob_ne h64 h54 (by decide)))).trans h64
        have h80 := (f77.1 da (nin3 (show da ≠ z0 by omega) (Ne.symm (ob_ar h53 h65)) (Ne.symm (ob_ar h54 h65)))).trans h65
        have h81 := (f77.1 og (nin3 (show og ≠ z0 by omega) (ob_ne h66 h53 (by decide)) (ob_ne h66 h54 (by decide)))).trans h66
        have tp83 : M70.2.1 = z0 + 8 := by rw [f77.2]; exact tp63
        have hV84 := hW.keep f77.gm (n7c h52 (by decide) (n7c h53 (by decide) (n7c h54 (by decide) (n7nil))))
        show pl _ _ _ (28, [(2, .ref z0), (0, .ref c), (1, .ref vd)], [.int 1], M70) _
        have hcl := s_class_in q25_s
        clear h54 h64 h65 h53 h66 h52 hW f77
        refine ps_if (S1 := (56, [], [], M70)) (S2 := (31, [(2, .ref z0), (0, .ref c), (1, .ref vd)], [], M70)) rfl rfl rfl (fun c_28 => ?_) (fun c_28 => ?_)
        · exact absurd (of_decide_eq_true c_28) (by decide)
        refine ps_st (S' := (32, [(2, .ref z0), (0, .ref c), (1, .ref vd)], [.ref z0], M70)) rfl rfl rfl ?_
        refine pl_call (a := [.ref z0]) (rest := []) rfl rfl rfl (dk_takesFields (r := z0) (c := c) (b := b) (vd := vd) (da := da) (n := n) (p := p'72) (q := (z0 + 1)) (fa := p'43) (ic := (by2 f (p'43 + 6))) (mj := (by2 f 6)) (f := f) (it := it'73) (ru := ru) (wa := wa) (mi := (nI (by2 f 4))) (x8 := ac) (x9 := aa) (k1 := k1) (k2 := k2) (k3 := k3) (k4 := k4) (k5 := k5) (k6 := k6) (k7 := k7) (u6 := u6) (u7 := u7) h74 h79 h80 h75 h76 (hn) (by omega) (by omega) (by omega) (by omega) (by omega) (by omega)) (fun v85 M86 q87 => ?_)
        rcases q87 with q87 | q87
        · skip
          obtain ⟨p'88, mm89, it'90, G91, q32_s, q32_n, q32_G, q32_V, rfl, h92, h93, h94, f95, tp96⟩ := q87
          have h97 := (f95.1 b (by omega) (nin3 (show b ≠ z0 by omega) (ob_ne h79 h75 (by decide)) (ob_ne h79 h76 (by decide)))).trans h79
          have h98 := (f95.1 da (by omega) (nin3 (show da ≠ z0 by omega) (Ne.symm (ob_ar h75 h80)) (Ne.symm (ob_ar h76 h80)))).trans h80
          have h99 := (f95.1 og (by omega) (nin3 (show og ≠ z0 by omega) (ob_ne h81 h75 (by decide)) (ob_ne h81 h76 (by decide)))).trans h81
          obtain ⟨t101, tp102⟩ : ∃ t9, M86.2.1 = t9 := ⟨_, rfl⟩
          rw [tp83, tp102] at tp96
          have hV103 := hV84.keep f95 (n7c h74 (by decide) (n7c h75 (by decide) (n7c h76 (by decide) (n7nil))))
          show pl _ _ _ (35, [(2, .ref z0), (0, .ref c), (1, .ref vd)], [.int 1], M86) _
          have hle32 := s_mbs_le q32_s
          clear h76 h79 h80 h75 h81 h74 hV84 f95
          refine ps_if (S1 := (56, [], [], M86)) (S2 := (38, [(2, .ref z0), (0, .ref c), (1, .ref vd)], [], M86)) rfl rfl rfl (fun c_35 => ?_) (fun c_35 => ?_)
          · exact absurd (of_decide_eq_true c_35) (by decide)
          refine ps_st (S' := (39, [(2, .ref z0), (0, .ref c), (1, .ref vd)], [.ref z0], M86)) rfl rfl rfl ?_
          refine pl_call (a := [.ref z0]) (rest := []) rfl rfl rfl (dk_takesMethods (r := z0) (c := c) (b := b) (vd := vd) (da := da) (n := n) (p := p'88) (q := (z0 + 1)) (fa := p'43) (ic := (by2 f (p'43 + 6))) (mj := (by2 f 6)) (f := f) (it := it'90) (ru := ru) (wa := wa) (mi := (nI (by2 f 4))) (x8 := ac) (x9 := aa) (k1 := k1) (k2 := k2) (k3 := k3) (k4 := k4) (k5 := k5) (k6 := k6) (k7 := k7) (m1 := mm89) (u7 := u7) h92 h97 h98 h93 h94 (hn) (by omega) (by omega) (by omega) (by omega) (by omega) (by omega)) (fun v104 M105 q106 => ?_)
          rcases q106 with q106 | q106
          · skip
            obtain ⟨p'107, mm108, it'109, G110, q39_s, q39_n, q39_G, q39_V, rfl, h111, h112, h113, f114, tp115⟩ := q106
            have h116 := (f114.1 b (by omega) (nin3 (show b ≠ z0 by omega) (ob_ne h97 h93 (by decide)) (ob_ne h97 h94 (by decide)))).trans h97
            have h117 := (f114.1 da (by omega) (nin3 (show da ≠ z0 by omega) (Ne.symm (ob_ar h93 h98)) (Ne.symm (ob_ar h94 h98)))).trans h98
            have h118 := (f114.1 og (by omega) (nin3 (show og ≠ z0 by omega) (ob_ne h99 h93 (by decide)) (ob_ne h99 h94 (by decide)))).trans h99
            obtain ⟨t120, tp121⟩ : ∃ t9, M105.2.1 = t9 := ⟨_, rfl⟩
            rw [tp102, tp121] at tp115
            have hV122 := hV103.keep f114 (n7c h92 (by decide) (n7c h93 (by decide) (n7c h94 (by decide) (n7nil))))
            have hV123 := q32_V.keep f114 (n6o h92 (by decide) (n6o h93 (by decide) (n6o h94 (by decide) (n6on))))
            show pl _ _ _ (42, [(2, .ref z0), (0, .ref c), (1, .ref vd)], [.int 1], M105) _
            have hle39 := s_mbs_le q39_s
            have hDs : ∀ i j, i < (mbs f n (by2 f p'72) (p'72 + 2)).length → j < (mbs f n (by2 f p'88) (p'88 + 2)).length → ¬ G91 i = G110 j := fun i j hi _ e9 => by
              have h1 := (q32_V.2.2.2 i hi).1
              have h2 := q39_G j
              omega
            clear h94 h97 h98 h93 h99 h92 hV103 q32_V f114
            refine ps_if (S1 := (56, [], [], M105)) (S2 := (45, [(2, .ref z0), (0, .ref c), (1, .ref vd)], [], M105)) rfl rfl rfl (fun c_42 => ?_) (fun c_42 => ?_)
            · exact absurd (of_decide_eq_true c_42) (by decide)
            refine ps_st (S' := (46, [(2, .ref z0), (0, .ref c), (1, .ref vd)], [.ref z0], M105)) rfl rfl rfl ?_
            refine pl_call (a := [.ref z0]) (rest := []) rfl rfl rfl (dk_takesEnd (r := z0) (c := c) (b := b) (vd := vd) (da := da) (n := n) (p := p'107) (q := (z0 + 1)) (fa := p'43) (ic := (by2 f (p'43 + 6))) (mj := (by2 f 6)) (f := f) (it := it'109) (ru := ru) (wa := wa) (mi := (nI (by2 f 4))) (x8 := ac) (x9 := aa) (k1 := k1) (k2 := k2) (k3 := k3) (k4 := k4) (k5 := k5) (k6 := k6) (k7 := k7) (m1 := mm89) (m2 := mm108) h111 h116 h117 h112 h113 (hn) (by omega)) (fun v124 M125 q126 => ?_)
            rcases q126 with q126 | q126
            · skip
              obtain ⟨it'127, q46_s, q46_a, rfl, h128, h129, h130, f131⟩ := q126
              have h133 := (f131.1 b (nin3 (show b ≠ z0 by omega) (ob_ne h116 h112 (by decide)) (ob_ne h116 h113 (by decide)))).trans h116
              have h134 := (f131.1 da (nin3 (show da ≠ z0 by omega) (Ne.symm (ob_ar h112 h117)) (Ne.symm (ob_ar h113 h117)))).trans h117
              have h135 := (f131.1 og (nin3 (show og ≠ z0 by omega) (ob_ne h118 h112 (by decide)) (ob_ne h118 h113 (by decide)))).trans h118
              have tp137 : M125.2.1 = t120 := by rw [f131.2]; exact tp121
              have hV138 := hV122.keep f131.gm (n7c h111 (by decide) (n7c h112 (by decide) (n7c h113 (by decide) (n7nil))))
              have hV139 := hV123.keep f131.gm (n6o h111 (by decide) (n6o h112 (by decide) (n6o h113 (by decide) (n6on))))
              have hV140 := q39_V.keep f131.gm (n6o h111 (by decide) (n6o h112 (by decide) (n6o h113 (by decide) (n6on))))
              show pl _ _ _ (49, [(2, .ref z0), (0, .ref c), (1, .ref vd)], [.int 1], M125) _
              clear h113 h116 h117 h112 h118 h111 hV122 hV123 q39_V f131
              refine ps_if (S1 := (56, [], [], M125)) (S2 := (52, [(2, .ref z0), (0, .ref c), (1, .ref vd)], [], M125)) rfl rfl rfl (fun c_49 => ?_) (fun c_49 => ?_)
              · exact absurd (of_decide_eq_true c_49) (by decide)
              refine ps_st (S' := (53, [(2, .ref z0), (0, .ref c), (1, .ref vd)], [.int 1], M125)) rfl rfl rfl ?_
              refine ps_st (S' := (57, [], [.int 1], M125)) rfl rfl rfl ?_
              exact ps_ret rfl rfl (Or.inl ⟨E46, (z0 + 1), p'43, p'72, p'88, p'107, mm89, mm108, G91, G110, by
                  unfold s_whole
                  rw [q11_s]
                  rw [if_neg (fun h => h rfl)]
                  rw [q18_s]
                  try dsimp only
                  rw [q25_s]
                  try dsimp only
                  rw [q32_s]
                  try dsimp only
                  rw [q39_s]
                  try dsimp only
                  rw [q46_s]
                  try dsimp only
                  first | done | rfl, ⟨hV138.qlt, by omega, by omega⟩, q25_s, q32_s, q39_s, q46_a, hV138, hV139, hV140, hDs, rfl, h130, h133, h134, h129, h135, by omega⟩)
            · skip
              obtain ⟨e141, q46_s, rfl, h142, f143⟩ := q126
              have h145 := (f143.1 b (nin3 (show b ≠ z0 by omega) (ob_ne h116 h112 (by decide)) (ob_ne h116 h113 (by decide)))).trans h116
              have h146 := (f143.1 da (nin3 (show da ≠ z0 by omega) (Ne.symm (ob_ar h112 h117)) (Ne.symm (ob_ar h113 h117)))).trans h117
              have h147 := (f143.1 og (nin3 (show og ≠ z0 by omega) (ob_ne h118 h112 (by decide)) (ob_ne h118 h113 (by decide)))).trans h118
              have tp149 : M125.2.1 = t120 := by rw [f143.2]; exact tp121
              have hV150 := hV122.keep f143.gm (n7c h111 (by decide) (n7c h112 (by decide) (n7c h113 (by decide) (n7nil))))
              have hV151 := hV123.keep f143.gm (n6o h111 (by decide) (n6o h112 (by decide) (n6o h113 (by decide) (n6on))))
              have hV152 := q39_V.keep f143.gm (n6o h111 (by decide) (n6o h112 (by decide) (n6o h113 (by decide) (n6on))))
              show pl _ _ _ (49, [(2, .ref z0), (0, .ref c), (1, .ref vd)], [.int 0], M125) _
              clear h113 h116 h117 h112 h118 h111 hV122 hV123 q39_V f143
              refine ps_if (S1 := (56, [], [], M125)) (S2 := (52, [(2, .ref z0), (0, .ref c), (1, .ref vd)], [], M125)) rfl rfl rfl (fun c_49 => ?_) (fun c_49 => ?_)
              rotate_left
              · exact absurd (by decide) (of_decide_eq_false c_49)
              refine ps_st (S' := (57, [], [.int 0], M125)) rfl rfl rfl ?_
              exact ps_ret rfl rfl (Or.inr ⟨e141, by
                  unfold s_whole
                  rw [q11_s]
                  rw [if_neg (fun h => h rfl)]
                  rw [q18_s]
                  try dsimp only
                  rw [q25_s]
                  try dsimp only
                  rw [q32_s]
                  try dsimp only
                  rw [q39_s]
                  try dsimp only
                  rw [q46_s]
                  try dsimp only
                  first | done | rfl, rfl, h142, h147, by omega⟩)
          · skip
            obtain ⟨e153, q39_s, rfl, h154, f155, tp156⟩ := q106
            have h157 := (f155.1 b (by omega) (nin3 (show b ≠ z0 by omega) (ob_ne h97 h93 (by decide)) (ob_ne h97 h94 (by decide)))).trans h97
            have h158 := (f155.1 da (by omega) (nin3 (show da ≠ z0 by omega) (Ne.symm (ob_ar h93 h98)) (Ne.symm (ob_ar h94 h98)))).trans h98
            have h159 := (f155.1 og (by omega) (nin3 (show og ≠ z0 by omega) (ob_ne h99 h93 (by decide)) (ob_ne h99 h94 (by decide)))).trans h99
            obtain ⟨t161, tp162⟩ : ∃ t9, M105.2.1 = t9 := ⟨_, rfl⟩
            rw [tp102, tp162] at tp156
            have hV163 := hV103.keep f155 (n7c h92 (by decide) (n7c h93 (by decide) (n7c h94 (by decide) (n7nil))))
            have hV164 := q32_V.keep f155 (n6o h92 (by decide) (n6o h93 (by decide) (n6o h94 (by decide) (n6on))))
            show pl _ _ _ (42, [(2, .ref z0), (0, .ref c), (1, .ref vd)], [.int 0], M105) _
            clear h94 h97 h98 h93 h99 h92 hV103 q32_V f155
            refine ps_if (S1 := (56, [], [], M105)) (S2 := (45, [(2, .ref z0), (0, .ref c), (1, .ref vd)], [], M105)) rfl rfl rfl (fun c_42 => ?_) (fun c_42 => ?_)
            rotate_left
            · exact absurd (by decide) (of_decide_eq_false c_42)
            refine ps_st (S' := (57, [], [.int 0], M105)) rfl rfl rfl ?_
            exact ps_ret rfl rfl (Or.inr ⟨e153, by
                unfold s_whole
                rw [q11_s]
                rw [if_neg (fun h => h rfl)]
                rw [q18_s]
                try dsimp only
                rw [q25_s]
                try dsimp only
                rw [q32_s]
                try dsimp only
                rw [q39_s]
                try dsimp only
                first | done | rfl, rfl, h154, h159, by omega⟩)
        · skip
          obtain ⟨e165, q32_s, rfl, h166, f167, tp168⟩ := q87
          have h169 := (f167.1 b (by omega) (nin3 (show b ≠ z0 by omega) (ob_ne h79 h75 (by decide)) (ob_ne h79 h76 (by decide)))).trans h79
          have h170 := (f167.1 da (by omega) (nin3 (show da ≠ z0 by omega) (Ne.symm (ob_ar h75 h80)) (Ne.symm (ob_ar h76 h80)))).trans h80
          have h171 := (f167.1 og (by omega) (nin3 (show og ≠ z0 by omega) (ob_ne h81 h75 (by decide)) (ob_ne h81 h76 (by decide)))).trans h81
          obtain ⟨t173, tp174⟩ : ∃ t9, M86.2.1 = t9 := ⟨_, rfl⟩
          rw [tp83, tp174] at tp168
          have hV175 := hV84.keep f167 (n7c h74 (by decide) (n7c h75 (by decide) (n7c h76 (by decide) (n7nil))))
          show pl _ _ _ (35, [(2, .ref z0), (0, .ref c), (1, .ref vd)], [.int 0], M86) _
          clear h76 h79 h80 h75 h81 h74 hV84 f167
          refine ps_if (S1 := (56, [], [], M86)) (S2 := (38, [(2, .ref z0), (0, .ref c), (1, .ref vd)], [], M86)) rfl rfl rfl (fun c_35 => ?_) (fun c_35 => ?_)
          rotate_left
          · exact absurd (by decide) (of_decide_eq_false c_35)
          refine ps_st (S' := (57, [], [.int 0], M86)) rfl rfl rfl ?_
          exact ps_ret rfl rfl (Or.inr ⟨e165, by
              unfold s_whole
              rw [q11_s]
              rw [if_neg (fun h => h rfl)]
              rw [q18_s]
              try dsimp only
              rw [q25_s]
              try dsimp only
              rw [q32_s]
              try dsimp only
              first | done | rfl, rfl, h166, h171, by omega⟩)
      · skip
        obtain ⟨e176, q25_s, rfl, h177, f178⟩ := q71
        have h180 := (f178.1 b (nin3 (show b ≠ z0 by omega) (ob_ne h64 h53 (by decide)) (ob_ne h64 h54 (by decide)))).trans h64
        have h181 := (f178.1 da (nin3 (show da ≠ z0 by omega) (Ne.symm (ob_ar h53 h65)) (Ne.symm (ob_ar h54 h65)))).trans h65
        have h182 := (f178.1 og (nin3 (show og ≠ z0 by omega) (ob_ne h66 h53 (by decide)) (ob_ne h66 h54 (by decide)))).trans h66
        have tp184 : M70.2.1 = z0 + 8 := by rw [f178.2]; exact tp63
        have hV185 := hW.keep f178.gm (n7c h52 (by decide) (n7c h53 (by decide) (n7c h54 (by decide) (n7nil))))
        show pl _ _ _ (28, [(2, .ref z0), (0, .ref c), (1, .ref vd)], [.int 0], M70) _
        clear h54 h64 h65 h53 h66 h52 hW f178
        refine ps_if (S1 := (56, [], [], M70)) (S2 := (31, [(2, .ref z0), (0, .ref c), (1, .ref vd)], [], M70)) rfl rfl rfl (fun c_28 => ?_) (fun c_28 => ?_)
        rotate_left
        · exact absurd (by decide) (of_decide_eq_false c_28)
        refine ps_st (S' := (57, [], [.int 0], M70)) rfl rfl rfl ?_
        exact ps_ret rfl rfl (Or.inr ⟨e176, by
            unfold s_whole
            rw [q11_s]
            rw [if_neg (fun h => h rfl)]
            rw [q18_s]
            try dsimp only
            rw [q25_s]
            try dsimp only
            first | done | rfl, rfl, h177, h182, by omega⟩)
    · skip
      obtain ⟨e186, q18_s, rfl, h187, f188, tp189⟩ := q42
      have h190 := (f188.1 b (by omega) (nin3 (show b ≠ z0 by omega) (ob_ne h34 h30 (by decide)) (ob_ne h34 h31 (by decide)))).trans h34
      have h191 := (f188.1 da (by omega) (nin3 (show da ≠ z0 by omega) (Ne.symm (ob_ar h30 h35)) (Ne.symm (ob_ar h31 h35)))).trans h35
      have h192 := (f188.1 og (by omega) (nin3 (show og ≠ z0 by omega) (ob_ne h36 h30 (by decide)) (ob_ne h36 h31 (by decide)))).trans h36
      obtain ⟨t194, tp195⟩ : ∃ t9, M41.2.1 = t9 := ⟨_, rfl⟩
      rw [tp38, tp195] at tp189
      have hV196 := hV39.keep f188 (n7c h29 (by decide) (n7c h30 (by decide) (n7c h31 (by decide) (n7nil))))
      show pl _ _ _ (21, [(2, .ref z0), (0, .ref c), (1, .ref vd)], [.int 0], M41) _
      clear h31 h34 h35 h30 h36 h29 hV39 f188
      refine ps_if (S1 := (56, [], [], M41)) (S2 := (24, [(2, .ref z0), (0, .ref c), (1, .ref vd)], [], M41)) rfl rfl rfl (fun c_21 => ?_) (fun c_21 => ?_)
      rotate_left
      · exact absurd (by decide) (of_decide_eq_false c_21)
      refine ps_st (S' := (57, [], [.int 0], M41)) rfl rfl rfl ?_
      exact ps_ret rfl rfl (Or.inr ⟨e186, by
          unfold s_whole
          rw [q11_s]
          rw [if_neg (fun h => h rfl)]
          rw [q18_s]
          try dsimp only
          first | done | rfl, rfl, h187, h192, by omega⟩)
  · skip
    obtain ⟨e1197, e2198, q11_s, q11_e, rfl, h199, f200⟩ := q28
    have h202 := (f200.1 b (nin3 (show b ≠ z0 by omega) (ob_ne h19 h21 (by decide)) (ob_ne h19 h18 (by decide)))).trans h19
    have h203 := (f200.1 da (nin3 (show da ≠ z0 by omega) (Ne.symm (ob_ar h21 h20)) (Ne.symm (ob_ar h18 h20)))).trans h20
    have h204 := (f200.1 og (nin3 (show og ≠ z0 by omega) (ob_ne h22 h21 (by decide)) (ob_ne h22 h18 (by decide)))).trans h22
    have tp206 : M27.2.1 = z0 + 1 := by rw [f200.2]; exact tp24
    have hV207 := hV25.keep f200.gm (n7c h15 (by decide) (n7c h21 (by decide) (n7c h18 (by decide) (n7nil))))
    show pl _ _ _ (14, [(2, .ref z0), (0, .ref c), (1, .ref vd)], [.int 0], M27) _
    clear h18 h19 h20 h21 h22 h15 hV25 f200
    refine ps_if (S1 := (56, [], [], M27)) (S2 := (17, [(2, .ref z0), (0, .ref c), (1, .ref vd)], [], M27)) rfl rfl rfl (fun c_14 => ?_) (fun c_14 => ?_)
    rotate_left
    · exact absurd (by decide) (of_decide_eq_false c_14)
    refine ps_st (S' := (57, [], [.int 0], M27)) rfl rfl rfl ?_
    exact ps_ret rfl rfl (Or.inr ⟨(e1197, e2198), by
        unfold s_whole
        rw [q11_s]
        rw [if_pos (by assumption)], rfl, h199, h204, by omega⟩)
set_option maxHeartbeats 1000000 in
theorem dk_read {g : xe_G} {M : mi_H} {f : Nat → Int32} {n o ca da : Nat} {cn wp : Int32} {kv : Value} (h_o : M.1 o = some (ob 11 [.ref ca, .int cn, .ref da, kv, .int wp])) (h_da : M.1 da = some (ar .byte n f)) (hn : n ≤ 65540) (l_o : o < M.2.1) (l_da : da < M.2.1) (hL : LT g M) : pt (mT g) 18 [.ref o] M (fun v M' => (∃ (kv2 : Value), v = some (.int (rdR (s_read f n))) ∧ M'.1 o = some (ob 11 [.ref ca, .int cn, .ref g.1, kv2, .int (rdP (s_read f n))]) ∧ M.2.1 ≤ M'.2.1)) := by
  refine pt_in (b := mb_18 g) rfl (fun kf => ?_)
  show pl (mT g) kf (mb_18 g).2 (0, [(0, .ref o)], [], M) _
  obtain ⟨z0, tp0⟩ : ∃ z0, M.2.1 = z0 := ⟨_, rfl⟩
  refine ps_newz rfl tp0 (fun M1 h2 f3 tp4 => ?_)
  have h5 := (f3 o (show o ≠ z0 by omega)).trans h_o
  have h6 := (f3 da (show da ≠ z0 by omega)).trans h_da
  have hV7 := hL.new tp0 f3 tp4
  clear h_o h_da hL f3
  show pl _ _ _ (3, [(0, .ref o)], [.ref z0], M1) _
  refine ps_st (S' := (4, [(0, .ref o)], [.ref z0, .ref z0], M1)) rfl rfl rfl ?_
  refine ps_newz rfl tp4 (fun M9 h10 f11 tp12 => ?_)
  have h13 := (f11 o (show o ≠ (z0 + 1) by omega)).trans h5
  have h14 := (f11 da (show da ≠ (z0 + 1) by omega)).trans h6
  have h15 := (f11 z0 (show z0 ≠ (z0 + 1) by omega)).trans h2
  have hV16 := hV7.new tp4 f11 tp12
  clear h5 h6 h2 hV7 f11
  show pl _ _ _ (7, [(0, .ref o)], [.ref (z0 + 1), .ref z0, .ref z0], M9) _
  refine ps_st (S' := (8, [(0, .ref o)], [.ref (z0 + 1), .ref (z0 + 1), .ref z0, .ref z0], M9)) rfl rfl rfl ?_
  refine ps_st (S' := (9, [(0, .ref o)], [.ref o, .ref (z0 + 1), .ref (z0 + 1), .ref z0, .ref z0], M9)) rfl rfl rfl ?_
  refine ps_get (S' := (12, [(0, .ref o)], [.ref da, .ref (z0 + 1), .ref (z0 + 1), .ref z0, .ref z0], M9)) rfl h13 rfl rfl ?_
  refine pl_call (a := [.ref (z0 + 1), .ref da]) (rest := [.ref (z0 + 1), .ref z0, .ref z0]) rfl rfl rfl (dk_bytes0 (o1 := (z0 + 1)) (da := da) h10) (fun v18 M19 q20 => ?_)
  obtain ⟨rfl, h21, f22⟩ := q20
  have h24 := (f22.1 o (nin1 (show o ≠ (z0 + 1) by omega))).trans h13
  have h25 := (f22.1 da (nin1 (show da ≠ (z0 + 1) by omega))).trans h14
  have h26 := (f22.1 z0 (nin1 (show z0 ≠ (z0 + 1) by omega))).trans h15
  have tp28 : M19.2.1 = z0 + 2 := by rw [f22.2]; exact tp12
  have hV29 := hV16.keep f22.gm (n7c h10 (by decide) (n7nil))
  show pl _ _ _ (15, [(0, .ref o)], [.ref (z0 + 1), .ref z0, .ref z0], M19) _
  clear h13 h14 h15 h10 hV16 f22
  refine pl_call (a := [.ref z0, .ref (z0 + 1)]) (rest := [.ref z0]) rfl rfl rfl (dk_classFile0 (o3 := z0) (b := (z0 + 1)) h26 (by omega)) (fun v30 M31 q32 => ?_)
  obtain ⟨u133, u634, u735, rfl, h36, f37, tp38⟩ := q32
  have h39 := (f37.1 o (by omega) (nin1 (show o ≠ z0 by omega))).trans h24
  have h40 := (f37.1 da (by omega) (nin1 (show da ≠ z0 by omega))).trans h25
  have h41 := (f37.1 (z0 + 1) (by omega) (nin1 (show (z0 + 1) ≠ z0 by omega))).trans h21
  obtain ⟨t43, tp44⟩ : ∃ t9, M31.2.1 = t9 := ⟨_, rfl⟩
  rw [tp28, tp44] at tp38
  have hV45 := hV29.keep f37 (n7c h26 (by decide) (n7nil))
  show pl _ _ _ (18, [(0, .ref o)], [.ref z0], M31) _
  clear h24 h25 h26 h21 hV29 f37
  refine ps_st (S' := (19, [(1, .ref z0), (0, .ref o)], [], M31)) rfl rfl rfl ?_
  refine ps_newz rfl tp44 (fun M46 h47 f48 tp49 => ?_)
  have h50 := (f48 o (show o ≠ t43 by omega)).trans h39
  have h51 := (f48 da (show da ≠ t43 by omega)).trans h40
  have h52 := (f48 z0 (show z0 ≠ t43 by omega)).trans h36
  have h53 := (f48 (z0 + 1) (show (z0 + 1) ≠ t43 by omega)).trans h41
  have hV54 := hV45.new tp44 f48 tp49
  clear h39 h40 h36 h41 hV45 f48
  show pl _ _ _ (22, [(1, .ref z0), (0, .ref o)], [.ref t43], M46) _
  refine ps_st (S' := (23, [(1, .ref z0), (0, .ref o)], [.ref t43, .ref t43], M46)) rfl rfl rfl ?_
  refine pl_call (a := [.ref t43]) (rest := [.ref t43]) rfl rfl rfl (dk_verdict0 (o10 := t43) h47) (fun v56 M57 q58 => ?_)
  obtain ⟨rfl, h59, f60⟩ := q58
  have h62 := (f60.1 o (nin1 (show o ≠ t43 by omega))).trans h50
  have h63 := (f60.1 da (nin1 (show da ≠ t43 by omega))).trans h51
  have h64 := (f60.1 z0 (nin1 (show z0 ≠ t43 by omega))).trans h52
  have h65 := (f60.1 (z0 + 1) (nin1 (show (z0 + 1) ≠ t43 by omega))).trans h53
  have tp67 : M57.2.1 = t43 + 1 := by rw [f60.2]; exact tp49
  have hV68 := hV54.keep f60.gm (n7c h47 (by decide) (n7nil))
  show pl _ _ _ (26, [(1, .ref z0), (0, .ref o)], [.ref t43], M57) _
  clear h50 h51 h52 h53 h47 hV54 f60
  refine ps_st (S' := (27, [(2, .ref t43), (1, .ref z0), (0, .ref o)], [], M57)) rfl rfl rfl ?_
  refine ps_st (S' := (28, [(2, .ref t43), (1, .ref z0), (0, .ref o)], [.ref o], M57)) rfl rfl rfl ?_
  refine ps_st (S' := (31, [(2, .ref t43), (1, .ref z0), (0, .ref o)], [.ref g.1, .ref o], M57)) rfl rfl rfl ?_
  refine ps_put (l' := [.ref ca, .int cn, .ref g.1, kv, .int wp]) rfl h62 rfl rfl (fun M69 h70 f71 z72 => ?_)
  have h73 := (f71 da (Ne.symm (ob_ar h62 h63))).trans h63
  have h74 := (f71 z0 (show z0 ≠ o by omega)).trans h64
  have h75 := (f71 (z0 + 1) (show (z0 + 1) ≠ o by omega)).trans h65
  have h76 := (f71 t43 (show t43 ≠ o by omega)).trans h59
  have hV77 := hV68.put h62 (by decide) f71 z72
  have tp79 : M69.2.1 = t43 + 1 := by rw [z72]; exact tp67
  clear h62 h63 h64 h65 h59 hV68 f71
  show pl _ _ _ (34, [(2, .ref t43), (1, .ref z0), (0, .ref o)], [], M69) _
  refine ps_st (S' := (35, [(2, .ref t43), (1, .ref z0), (0, .ref o)], [.ref z0], M69)) rfl rfl rfl ?_
  refine ps_st (S' := (36, [(2, .ref t43), (1, .ref z0), (0, .ref o)], [.ref t43, .ref z0], M69)) rfl rfl rfl ?_
  refine pl_call (a := [.ref z0, .ref t43]) (rest := []) rfl rfl rfl (dk_isWhole (f := f) (n := n) (c := z0) (b := (z0 + 1)) (da := da) (vd := t43) (ru := 0) (wa := (-1)) (mi := 0) (ma := 0) (fa := 0) (ic := 0) (ac := 0) (aa := 0) (k1 := 0) (k2 := 0) (k3 := 0) (k4 := 0) (k5 := 0) (k6 := 0) (k7 := (-1)) (u1 := u133) (u6 := u634) (u7 := u735) (og := o) (ga := ca) (gf := g.1) (gn := cn) (gw := wp) (gk := kv) h74 h75 h73 h76 h70 (hn) (by omega) (by omega) (by omega) (by omega) (by omega) (hV77)) (fun v80 M81 q82 => ?_)
  rcases q82 with q82 | q82
  · skip
    obtain ⟨E83, q84, p185, pF86, pM87, pA88, m189, m290, G191, G292, q36_s, q36_b, q36_c, q36_f, q36_m, q36_a, q36_V, q36_M1, q36_M2, q36_D, rfl, h93, h94, h95, h96, h97, tp99⟩ := q82
    obtain ⟨t100, tp101⟩ : ∃ t9, M81.2.1 = t9 := ⟨_, rfl⟩
    rw [tp79, tp101] at tp99
    show pl _ _ _ (39, [(2, .ref t43), (1, .ref z0), (0, .ref o)], [.int 1], M81) _
    refine ps_if (S1 := (55, [(0, .ref o), (2, .ref t43)], [], M81)) (S2 := (42, [(2, .ref t43), (1, .ref z0), (0, .ref o)], [], M81)) rfl rfl rfl (fun c_39 => ?_) (fun c_39 => ?_)
    · exact absurd (of_decide_eq_true c_39) (by decide)
    refine ps_st (S' := (43, [(2, .ref t43), (1, .ref z0), (0, .ref o)], [.ref z0], M81)) rfl rfl rfl ?_
    refine ps_st (S' := (44, [(2, .ref t43), (1, .ref z0), (0, .ref o)], [.ref t43, .ref z0], M81)) rfl rfl rfl ?_
    have hb1 := mbs_of q36_f
    have hb2 := mbs_of q36_m
    have hc9 := s_class_in q36_c
    obtain ⟨ha8, ha9⟩ := s_atts_of q36_a
    have hu1 := by2_lt f pF86
    have hu2 := by2_lt f pM87
    refine pl_call (a := [.ref z0, .ref t43]) (rest := []) rfl rfl rfl (dk_holds (f := f) (n := n) (N := (by2 f 8)) (q := q84) (E := E83) (c := z0) (b := (z0 + 1)) (da := da) (vd := t43) (fr := m189) (mr := m290) (fa := p185) (ic := (by2 f (p185 + 6))) (mj := (by2 f 6)) (na := (by2 f pA88)) (pa := (pA88 + 2)) (e0 := n) (mi := (nI (by2 f 4))) (ru := 0) (wa := (-1)) (k1 := 0) (B1 := (mbs f n (by2 f pF86) (pF86 + 2))) (B2 := (mbs f n (by2 f pM87) (pM87 + 2))) (G1 := G191) (G2 := G292) (og := o) (ga := ca) (gf := g.1) (gn := cn) (gw := wp) (gk := kv) h93 h94 h95 h96 h97 (hn) (by2_lt _ _) (by omega) (by omega) (by2_lt _ _) (⟨by2_lt _ _, by omega⟩) (ha9) (by omega) (by omega) (hb1.2) (hb2.2) (q36_D) (by omega) (by omega) (by omega) (by omega) (by omega) (by omega) (q36_V) (q36_M1) (q36_M2)) (fun v102 M103 q104 => ?_)
    rcases q104 with q104 | q104
    · skip
      obtain ⟨q44_s, rfl, h105, h106, tp108⟩ := q104
      obtain ⟨t109, tp110⟩ : ∃ t9, M103.2.1 = t9 := ⟨_, rfl⟩
      rw [tp101, tp110] at tp108
      show pl _ _ _ (47, [(2, .ref t43), (1, .ref z0), (0, .ref o)], [.int 1], M103) _
      refine ps_if (S1 := (55, [(0, .ref o), (2, .ref t43)], [], M103)) (S2 := (50, [(2, .ref t43), (1, .ref z0), (0, .ref o)], [], M103)) rfl rfl rfl (fun c_47 => ?_) (fun c_47 => ?_)
      · exact absurd (of_decide_eq_true c_47) (by decide)
      refine ps_st (S' := (51, [(2, .ref t43), (1, .ref z0), (0, .ref o)], [.ref o], M103)) rfl rfl rfl ?_
      refine ps_st (S' := (52, [(2, .ref t43), (1, .ref z0), (0, .ref o)], [.ref z0, .ref o], M103)) rfl rfl rfl ?_
      refine ps_put (l' := [.ref ca, .int cn, .ref g.1, .ref z0, .int wp]) rfl h106 rfl rfl (fun M111 h112 f113 z114 => ?_)
      have h115 := (f113 t43 (show t43 ≠ o by omega)).trans h105
      have tp117 : M111.2.1 = t109 := by rw [z114]; exact tp110
      clear h105 h106 f113
      show pl _ _ _ (55, [(0, .ref o), (2, .ref t43)], [], M111) _
      refine ps_st (S' := (56, [(0, .ref o), (2, .ref t43)], [.ref o], M111)) rfl rfl rfl ?_
      refine ps_st (S' := (57, [(0, .ref o), (2, .ref t43)], [.ref t43, .ref o], M111)) rfl rfl rfl ?_
      refine ps_get (S' := (60, [(0, .ref o), (2, .ref t43)], [.int (-1), .ref o], M111)) rfl h115 rfl rfl ?_
      refine ps_put (l' := [.ref ca, .int cn, .ref g.1, .ref z0, .int (-1)]) rfl h112 rfl rfl (fun M118 h119 f120 z121 => ?_)
      have h122 := (f120 t43 (show t43 ≠ o by omega)).trans h115
      have tp124 : M118.2.1 = t109 := by rw [z121]; exact tp117
      clear h115 h112 f120
      show pl _ _ _ (63, [(0, .ref o), (2, .ref t43)], [], M118) _
      refine ps_st (S' := (64, [(0, .ref o), (2, .ref t43)], [.ref t43], M118)) rfl rfl rfl ?_
      refine ps_get (S' := (67, [(0, .ref o), (2, .ref t43)], [.int 0], M118)) rfl h122 rfl rfl ?_
      have hrd : s_read f n = none := s_read_2 q36_s q44_s
      exact ps_ret rfl rfl (⟨_, by rw [hrd]; rfl, by rw [hrd]; exact h119, by omega⟩)
    · skip
      obtain ⟨e9125, q44_s, rfl, h126, h127, tp129⟩ := q104
      obtain ⟨t130, tp131⟩ : ∃ t9, M103.2.1 = t9 := ⟨_, rfl⟩
      rw [tp101, tp131] at tp129
      show pl _ _ _ (47, [(2, .ref t43), (1, .ref z0), (0, .ref o)], [.int 0], M103) _
      refine ps_if (S1 := (55, [(0, .ref o), (2, .ref t43)], [], M103)) (S2 := (50, [(2, .ref t43), (1, .ref z0), (0, .ref o)], [], M103)) rfl rfl rfl (fun c_47 => ?_) (fun c_47 => ?_)
      rotate_left
      · exact absurd (by decide) (of_decide_eq_false c_47)
      refine ps_st (S' := (56, [(0, .ref o), (2, .ref t43)], [.ref o], M103)) rfl rfl rfl ?_
      refine ps_st (S' := (57, [(0, .ref o), (2, .ref t43)], [.ref t43, .ref o], M103)) rfl rfl rfl ?_
      refine ps_get (S' := (60, [(0, .ref o), (2, .ref t43)], [.int (nI e9125.2), .ref o], M103)) rfl h126 rfl rfl ?_
      refine ps_put (l' := [.ref ca, .int cn, .ref g.1, kv, .int (nI e9125.2)]) rfl h127 rfl rfl (fun M132 h133 f134 z135 => ?_)
      have h136 := (f134 t43 (show t43 ≠ o by omega)).trans h126
      have tp138 : M132.2.1 = t130 := by rw [z135]; exact tp131
      clear h126 h127 f134
      show pl _ _ _ (63, [(0, .ref o), (2, .ref t43)], [], M132) _
      refine ps_st (S' := (64, [(0, .ref o), (2, .ref t43)], [.ref t43], M132)) rfl rfl rfl ?_
      refine ps_get (S' := (67, [(0, .ref o), (2, .ref t43)], [.int (nI e9125.1)], M132)) rfl h136 rfl rfl ?_
      have hrd : s_read f n = some e9125 := s_read_2 q36_s q44_s
      exact ps_reti rfl (⟨_, by rw [hrd]; rfl, by rw [hrd]; exact h133, by omega⟩)
  · skip
    obtain ⟨e9139, q36_s, rfl, h140, h141, tp143⟩ := q82
    obtain ⟨t144, tp145⟩ : ∃ t9, M81.2.1 = t9 := ⟨_, rfl⟩
    rw [tp79, tp145] at tp143
    show pl _ _ _ (39, [(2, .ref t43), (1, .ref z0), (0, .ref o)], [.int 0], M81) _
    refine ps_if (S1 := (55, [(0, .ref o), (2, .ref t43)], [], M81)) (S2 := (42, [(2, .ref t43), (1, .ref z0), (0, .ref o)], [], M81)) rfl rfl rfl (fun c_39 => ?_) (fun c_39 => ?_)
    rotate_left
    · exact absurd (by decide) (of_decide_eq_false c_39)
    refine ps_st (S' := (56, [(0, .ref o), (2, .ref t43)], [.ref o], M81)) rfl rfl rfl ?_
    refine ps_st (S' := (57, [(0, .ref o), (2, .ref t43)], [.ref t43, .ref o], M81)) rfl rfl rfl ?_
    refine ps_get (S' := (60, [(0, .ref o), (2, .ref t43)], [.int (nI e9139.2), .ref o], M81)) rfl h140 rfl rfl ?_
    refine ps_put (l' := [.ref ca, .int cn, .ref g.1, kv, .int (nI e9139.2)]) rfl h141 rfl rfl (fun M146 h147 f148 z149 => ?_)
    have h150 := (f148 t43 (show t43 ≠ o by omega)).trans h140
    have tp152 : M146.2.1 = t144 := by rw [z149]; exact tp145
    clear h140 h141 f148
    show pl _ _ _ (63, [(0, .ref o), (2, .ref t43)], [], M146) _
    refine ps_st (S' := (64, [(0, .ref o), (2, .ref t43)], [.ref t43], M146)) rfl rfl rfl ?_
    refine ps_get (S' := (67, [(0, .ref o), (2, .ref t43)], [.int (nI e9139.1)], M146)) rfl h150 rfl rfl ?_
    have hrd : s_read f n = some e9139 := s_read_1 q36_s
    exact ps_reti rfl (⟨_, by rw [hrd]; rfl, by rw [hrd]; exact h147, by omega⟩)
end
section
/-! partial runs over the reference's heap (my own text) -/
section RPA
variable {g : xe_G} {m0 : Nat} {q : Nat → Nat} {z : Nat × Nat} {I : rI} {R : rR} {M : mi_H} {T : Nat → Option (Nat × mi_B)} {k pc : Nat} {tb : mi_B} {lv : List (Nat × Value)} {s0 : List Value} {S' : mi_S} {Q : Option Value → mi_H → Prop}
theorem RS.put {j : Nat} {x : Int32} (hR : RS g m0 q z I R M) (hj : rx j = false) : RS g m0 q z (iset I j x) R (va_up M.1 m0 (some (.inr (12, va_up (rfld q I) j (some (.int x))))), M.2) := by
  refine ⟨?_, fun k t hk => ?_, ?_, hR.2.2.2.1, hR.2.2.2.2.1, fun k hk => ?_⟩
  · show va_up M.1 m0 _ m0 = _
    rw [va_up, if_pos rfl]
    congr 3
    funext k
    unfold rfld
    by_cases h : k = j
    · subst h
      simp [va_up, hj, iset]
    · simp [va_up, h, iset]
  · have h0 := hR.2.1 k t hk
    show va_up M.1 m0 _ (q k) = _
    rw [va_up, if_neg]
    · exact h0
    · intro e
      rw [e, hR.1] at h0
      cases h0
  · have h0 := hR.2.2.1
    show va_up M.1 m0 _ (q 62) = _
    rw [va_up, if_neg]
    · exact h0
    · intro e
      rw [e, hR.1] at h0
      cases h0
  · obtain ⟨f, h0⟩ := hR.2.2.2.2.2 k hk
    refine ⟨f, ?_⟩
    show va_up M.1 m0 _ (g.2.1 k) = _
    rw [va_up, if_neg]
    · exact h0
    · intro e
      rw [e, hR.1] at h0
      have h2 := congrArg (fun o => match o with | some (Sum.inr p) => p.1 | _ => 0) h0
      simp only at h2
      omega
theorem RS.st {k n i : Nat} {ty : FieldType} {y : Int32} (hR : RS g m0 q z I R M) (hk : rt k = some (ty, n)) : RS g m0 q z I (rset R k i y) (va_up M.1 (q k) (some (.inl (ty, n, va_up (fun i => (R k i).map Value.int) i (some (.int y))))), M.2) := by
  have hkx : rx k = true := by simp [rx, hk]
  have hc := hR.2.1 k _ hk
  refine ⟨?_, fun a t ha => ?_, ?_, hR.2.2.2.1, hR.2.2.2.2.1, fun a ha => ?_⟩
  · show va_up M.1 (q k) _ m0 = _
    rw [va_up, if_neg]
    · exact hR.1
    · intro e
      rw [← e, hR.1] at hc
      cases hc
  · show va_up M.1 (q k) _ (q a) = _
    by_cases h : a = k
    · subst h
      rw [hk] at ha
      cases ha
      rw [va_up, if_pos rfl]
      congr 4
      funext b
      by_cases hb : b = i
      · simp [va_up, rset, hb]
      · simp [va_up, rset, hb]
    · rw [va_up, if_neg]
      · rw [hR.2.1 a t ha]
        simp [rset, h]
      · intro e
        exact h (hR.2.2.2.1 a k (by simp [rx, ha]) hkx e)
  · show va_up M.1 (q k) _ (q 62) = _
    rw [va_up, if_neg]
    · exact hR.2.2.1
    · intro e
      have := hR.2.2.2.1 62 k rfl hkx e
      subst this
      cases hk
  · obtain ⟨f, h0⟩ := hR.2.2.2.2.2 a ha
    refine ⟨f, ?_⟩
    show va_up M.1 (q k) _ (g.2.1 a) = _
    rw [va_up, if_neg]
    · exact h0
    · intro e
      rw [e, hc] at h0
      cases h0
theorem pr_int {j : Nat} {x : Int32} (h1 : tb.1 pc = some (.inl (o_get 12 j))) (hR : RS g m0 q z I R M) (hj : rx j = false) (hi : I j = some x) (e1 : mi_nk tb.2 (pc + 3, lv, .int x :: s0, M) = S') (kk : pl T k tb S' Q) : pl T k tb (pc, lv, .ref m0 :: s0, M) Q := by
  subst e1
  exact pl_get h1 (by unfold mi_gf; rw [hR.1]; simp [rfld, hj, hi]) kk
theorem pr_ref {j : Nat} (h1 : tb.1 pc = some (.inl (o_get 12 j))) (hR : RS g m0 q z I R M) (hj : rx j = true) (e1 : mi_nk tb.2 (pc + 3, lv, .ref (q j) :: s0, M) = S') (kk : pl T k tb S' Q) : pl T k tb (pc, lv, .ref m0 :: s0, M) Q := by
  subst e1
  exact pl_get h1 (by unfold mi_gf; rw [hR.1]; simp [rfld, hj]) kk
theorem pr_len {a n : Nat} {ty : FieldType} (h1 : tb.1 pc = some (.inl (o_alen ty))) (hR : RS g m0 q z I R M) (hk : rt a = some (ty, n)) (e1 : mi_nk tb.2 (pc + 1, lv, .int (nI n) :: s0, M) = S') (kk : pl T k tb S' Q) : pl T k tb (pc, lv, .ref (q a) :: s0, M) Q := by
  subst e1
  exact pl_is h1 (S' := (pc + 1, lv, .int (nI n) :: s0, M)) (by simp only [o_alen, hR.row hk]; rfl) kk
/-- a row's element, whatever it is -/
theorem pr_ldu {a n : Nat} {ty : FieldType} {i : Int32} (h1 : tb.1 pc = some (.inl (o_ald ty))) (hR : RS g m0 q z I R M) (hk : rt a = some (ty, n)) (kk : ∀ y, ¬ i < 0 → i.toNatClampNeg < n → R a i.toNatClampNeg = some y → pl T k tb (mi_nk tb.2 (pc + 1, lv, .int y :: s0, M)) Q) : pl T k tb (pc, lv, .int i :: .ref (q a) :: s0, M) Q := by
  refine pl_st h1 (fun S1 h => ?_)
  unfold o_ald at h
  simp only [hR.row hk] at h
  split at h
  · cases h
  · rename_i hin
    cases hy : R a i.toNatClampNeg with
    | none =>
      rw [hy] at h
      cases h
    | some y =>
      rw [hy] at h
      cases h
      exact kk y (fun h9 => hin (Or.inl h9)) (Nat.not_le.mp (fun h9 => hin (Or.inr h9))) hy
/-- a row's element that is known -/
theorem pr_ld {a n j : Nat} {ty : FieldType} {y : Int32} (h1 : tb.1 pc = some (.inl (o_ald ty))) (hR : RS g m0 q z I R M) (hk : rt a = some (ty, n)) (hj : j < 1073741824) (hv : j < n → R a j = some y) (e1 : mi_nk tb.2 (pc + 1, lv, .int y :: s0, M) = S') (kk : j < n → pl T k tb S' Q) : pl T k tb (pc, lv, .int (nI j) :: .ref (q a) :: s0, M) Q := by
  subst e1
  refine pr_ldu h1 hR hk (fun y' h0 h2 h3 => ?_)
  rw [nI_toNat hj] at h2 h3
  rw [hv h2] at h3
  cases h3
  exact kk h2
theorem pr_put {j : Nat} {x : Int32} (h1 : tb.1 pc = some (.inl (o_put 12 j .int))) (hR : RS g m0 q z I R M) (hj : rx j = false) (kk : ∀ M' I', RS g m0 q z I' R M' → I' j = some x → (∀ k, k ≠ j → I' k = I k) → pl T k tb (mi_nk tb.2 (pc + 3, lv, s0, M')) Q) : pl T k tb (pc, lv, .int x :: .ref m0 :: s0, M) Q := by
  refine pl_st h1 (fun S1 hS => ?_)
  unfold o_put at hS
  simp only [hR.1] at hS
  split at hS
  · cases hS
    exact kk _ _ (hR.put hj) (by simp [iset]) (fun k hk => by simp [iset, hk])
  · cases hS
theorem pr_st {a n j : Nat} {ty : FieldType} {nar : Int32 → Int32} {x : Int32} (h1 : tb.1 pc = some (.inl (o_ast ty nar))) (hR : RS g m0 q z I R M) (hk : rt a = some (ty, n)) (hj : j < 1073741824) (kk : ∀ M' R', j < n → RS g m0 q z I R' M' → R' = rset R a j (nar x) → pl T k tb (mi_nk tb.2 (pc + 1, lv, s0, M')) Q) : pl T k tb (pc, lv, .int x :: .int (nI j) :: .ref (q a) :: s0, M) Q := by
  refine pl_st h1 (fun S1 hS => ?_)
  unfold o_ast at hS
  simp only [hR.row hk] at hS
  split at hS
  · cases hS
  · rename_i hin
    cases hS
    rw [nI_toNat hj] at hin ⊢
    exact kk _ _ (Nat.not_le.mp (fun h9 => hin (Or.inr h9))) (hR.st hk) rfl
theorem pl_top {x y : Int32} (h : x = y) (kk : pl T k tb (pc, lv, .int y :: s0, M) Q) : pl T k tb (pc, lv, .int x :: s0, M) Q := by
  rw [h]
  exact kk
theorem rset_ne {R : rR} {a b j : Nat} {x : Int32} (h : ¬ b = a) : rset R a j x b = R b := by
  funext i
  simp [rset, h]
theorem rset_at {R : rR} {a j : Nat} {x : Int32} : rset R a j x a j = some x := by simp [rset]
theorem rset_el {R : rR} {a i j : Nat} {x : Int32} (h : ¬ i = j) : rset R a j x a i = R a i := by simp [rset, h]
theorem eqR.st {W : List Nat} {R R1 R2 : rR} {a j : Nat} {x : Int32} (h : eqR W R R1) (h' : R2 = rset R1 a j x) (hs : a ∈ W) : eqR W R R2 := fun k hk => by
  rw [h', rset_ne (a := a) (b := k) (fun e => hk (by rw [e]; exact hs))]
  exact h k hk
theorem rRx {R R' : rR} {a j : Nat} {x : Int32} {L : List Nat} (f : R' = rset R a j x) (h : a ∉ L) : ∀ k, k ∈ L → R' k = R k := fun k hk => by
  rw [f, rset_ne (a := a) (b := k) (fun e => h (by rw [← e]; exact hk))]
/-- the reference's literals -/
theorem pr_slen {lk L : Nat} (h1 : tb.1 pc = some (.inl o_slength)) (hR : RS g m0 q z I R M) (hl : rlk lk) (hL : (xe_lt lk).2.2.2.length = L) (e1 : mi_nk tb.2 (pc + 3, lv, .int (nI L) :: s0, M) = S') (kk : pl T k tb S' Q) : pl T k tb (pc, lv, .ref (g.2.1 lk) :: s0, M) Q := by
  obtain ⟨f, h0⟩ := hR.2.2.2.2.2 lk hl
  exact ps_slen h1 h0 hL e1 kk
theorem pr_schar {lk j : Nat} (h1 : tb.1 pc = some (.inl o_scharAt)) (hR : RS g m0 q z I R M) (hl : rlk lk) (hj : j < 1073741824) (e1 : mi_nk tb.2 (pc + 3, lv, .int (nI ((ltx lk).getD j 0)) :: s0, M) = S') (kk : pl T k tb S' Q) : pl T k tb (pc, lv, .int (nI j) :: .ref (g.2.1 lk) :: s0, M) Q := by
  obtain ⟨f, h0⟩ := hR.2.2.2.2.2 lk hl
  exact ps_schar h1 h0 ⟨hl.2, rfl⟩ hj e1 kk
end RPA
section RPB
/-- bytes of the file, as numbers -/
theorem f1_nI {f : Nat → Int32} {p : Nat} (hp : p < 1073741824) : f1 f (nI p) = nI (by1 f p) := by
  unfold f1
  rw [nI_toNat hp]
  exact by1_eq f p
theorem f2_nI {f : Nat → Int32} {p : Nat} (hp : p < 1000000) : f2 f (nI p) = nI (by2 f p) := by
  unfold f2
  rw [nI_plus (j := 1) rfl (by omega), f1_nI (by omega), f1_nI (by omega)]
  have := by1_lt f p
  exact nI_cat (x := by1 f p) (y := by1 f (p + 1)) (s := 8) (by decide) (by omega) (by1_lt f (p + 1))
def nL (k : Nat) : Int64 := Int64.ofNat k
theorem nL_val {k : Nat} (h : k < 4611686018427387904) : (nL k).toInt = k := Int64.toInt_ofNat_of_lt (by omega)
theorem i2l_nL {p : Nat} (h : p < 1073741824) : Int32.toInt64 (nI p) = nL p := Int64.toInt_inj.mp (by rw [Int32.toInt_toInt64, nI_val h, nL_val (by omega)])
theorem l2i_nL {p : Nat} (h : p < 1073741824) : Int64.toInt32 (nL p) = nI p := Int32.toInt_inj.mp (by
  rw [i_of (by rw [nL_val (by omega)]; omega) (by rw [nL_val (by omega)]; omega), nL_val (by omega), nI_val h])
theorem nL_add {p k : Nat} {x : Int64} (hx : x = nL k) (h : p + k < 4611686018427387904) : nL p + x = nL (p + k) := by
  subst hx
  apply Int64.toInt_inj.mp
  rw [l_add (by rw [nL_val (by omega), nL_val (by omega)]; omega) (by rw [nL_val (by omega), nL_val (by omega)]; omega), nL_val (by omega), nL_val (by omega), nL_val (by omega)]
  omega
theorem f4_nL {f : Nat → Int32} {p : Nat} (hp : p < 900000) : f4 f (nI p) = nL (by4 f p) := by
  apply Int64.toInt_inj.mp
  have h1 := by2_lt f p
  have h2 := by2_lt f (p + 2)
  rw [f4_val, nI_plus (j := 2) rfl (by omega), f2_nI (by omega), f2_nI (by omega), nI_val (by omega), nI_val (by omega), nL_val (by unfold by4; omega)]
  unfold by4
  omega
variable {p k : Nat} {x y : Int64}
theorem cL (hx : x = nL p) (hy : y = nL k) (hp : p < 4611686018427387904) (hk : k < 4611686018427387904) : lg_cmp x y = if k < p then 1 else if p = k then 0 else -1 := by
  subst hx
  subst hy
  have e1 : (nL k < nL p) ↔ k < p := by
    rw [Int64.lt_iff_toInt_lt, nL_val hp, nL_val hk]
    omega
  have e2 : (nL p = nL k) ↔ p = k := by
    rw [← Int64.toInt_inj, nL_val hp, nL_val hk]
    omega
  unfold lg_cmp
  simp only [e1, e2]
theorem cL_3 (hx : x = nL p) (hy : y = nL k) (hp : p < 4611686018427387904) (hk : k < 4611686018427387904) : (k < p ∧ lg_cmp x y = 1) ∨ (p = k ∧ lg_cmp x y = 0) ∨ (p < k ∧ lg_cmp x y = -1) := by
  rw [cL hx hy hp hk]
  by_cases h1 : k < p
  · exact Or.inl ⟨h1, if_pos h1⟩
  · by_cases h2 : p = k
    · exact Or.inr (Or.inl ⟨h2, by rw [if_neg h1, if_pos h2]⟩)
    · exact Or.inr (Or.inr ⟨by omega, by rw [if_neg h1, if_neg h2]⟩)
theorem cL_le (hx : x = nL p) (hy : y = nL k) (hp : p < 4611686018427387904) (hk : k < 4611686018427387904) : lg_cmp x y ≤ 0 ↔ p ≤ k := by
  rcases cL_3 hx hy hp hk with ⟨h, e⟩ | ⟨h, e⟩ | ⟨h, e⟩ <;> rw [e]
  · exact ⟨fun h9 => absurd h9 (by decide), fun h9 => by omega⟩
  · exact ⟨fun _ => by omega, fun _ => by decide⟩
  · exact ⟨fun _ => by omega, fun _ => by decide⟩
theorem cL_gt (hx : x = nL p) (hy : y = nL k) (hp : p < 4611686018427387904) (hk : k < 4611686018427387904) : 0 < lg_cmp x y ↔ k < p := by
  rcases cL_3 hx hy hp hk with ⟨h, e⟩ | ⟨h, e⟩ | ⟨h, e⟩ <;> rw [e]
  · exact ⟨fun _ => h, fun _ => by decide⟩
  · exact ⟨fun h9 => absurd h9 (by decide), fun h9 => by omega⟩
  · exact ⟨fun h9 => absurd h9 (by decide), fun h9 => by omega⟩
theorem cL_ge (hx : x = nL p) (hy : y = nL k) (hp : p < 4611686018427387904) (hk : k < 4611686018427387904) : 0 ≤ lg_cmp x y ↔ k ≤ p := by
  rcases cL_3 hx hy hp hk with ⟨h, e⟩ | ⟨h, e⟩ | ⟨h, e⟩ <;> rw [e]
  · exact ⟨fun _ => by omega, fun _ => by decide⟩
  · exact ⟨fun _ => by omega, fun _ => by decide⟩
  · exact ⟨fun h9 => absurd h9 (by decide), fun h9 => by omega⟩
theorem cL_lt (hx : x = nL p) (hy : y = nL k) (hp : p < 4611686018427387904) (hk : k < 4611686018427387904) : lg_cmp x y < 0 ↔ p < k := by
  rcases cL_3 hx hy hp hk with ⟨h, e⟩ | ⟨h, e⟩ | ⟨h, e⟩ <;> rw [e]
  · exact ⟨fun h9 => absurd h9 (by decide), fun h9 => by omega⟩
  · exact ⟨fun h9 => absurd h9 (by decide), fun h9 => by omega⟩
  · exact ⟨fun _ => h, fun _ => by decide⟩
theorem cL_eq (hx : x = nL p) (hy : y = nL k) (hp : p < 4611686018427387904) (hk : k < 4611686018427387904) : lg_cmp x y = 0 ↔ p = k := by
  rcases cL_3 hx hy hp hk with ⟨h, e⟩ | ⟨h, e⟩ | ⟨h, e⟩ <;> rw [e]
  · exact ⟨fun h9 => absurd h9 (by decide), fun h9 => by omega⟩
  · exact ⟨fun _ => h, fun _ => by decide⟩
  · exact ⟨fun h9 => absurd h9 (by decide), fun h9 => by omega⟩
theorem cL_ne (hx : x = nL p) (hy : y = nL k) (hp : p < 4611686018427387904) (hk : k < 4611686018427387904) : ¬ lg_cmp x y = 0 ↔ ¬ p = k := not_congr (cL_eq hx hy hp hk)
end RPB
end
section
/-! the reference reads: bytes, items, attributes, members (laid by wip/p4/e1.py) -/

theorem s_atts_st {f : Nat → Int32} {n c i p : Nat} (h : i < c) : s_atts f n (c - i) p = if n < p + 2 then .inl (1, p) else if n < p + 6 then .inl (1, p + 2) else if n < p + 6 + by4 f (p + 2) then .inl (1, p + 6) else s_atts f n (c - (i + 1)) (p + 6 + by4 f (p + 2)) := by
  rw [show c - i = (c - (i + 1)) + 1 by omega]
  rfl
theorem s_mems_bad {f : Nat → Int32} {n c i j p : Nat} (h : i < c) (hj : j < 3) (h1 : p + 2 * j ≤ n) (h2 : n < p + 2 * j + 2) : s_mems f n (c - i) p = .inl (1, p + 2 * j) := by
  rw [s_mems_st h]
  have h3 : j = 0 ∨ j = 1 ∨ j = 2 := by omega
  rcases h3 with rfl | rfl | rfl
  · rw [if_pos (by omega)]
    rfl
  · rw [if_neg (by omega), if_pos (by omega)]
  · rw [if_neg (by omega), if_neg (by omega), if_pos (by omega)]
theorem s_two_st {n c i p : Nat} (h : i < c) : s_two n (c - i) p = if n < p + 2 then .inl (1, p) else s_two n (c - (i + 1)) (p + 2) := by
  rw [show c - i = (c - (i + 1)) + 1 by omega]
  rfl
theorem s_class_bad {f : Nat → Int32} {n j p : Nat} (hj : j < 4) (h1 : p + 2 * j ≤ n) (h2 : n < p + 2 * j + 2) : s_class f n p = .inl (1, p + 2 * j) := by
  unfold s_class
  have h3 : j = 0 ∨ j = 1 ∨ j = 2 ∨ j = 3 := by omega
  rcases h3 with rfl | rfl | rfl | rfl
  · rw [if_pos (by omega)]
    rfl
  · rw [if_neg (by omega), if_pos (by omega)]
  · rw [if_neg (by omega), if_neg (by omega), if_pos (by omega)]
  · rw [if_neg (by omega), if_neg (by omega), if_neg (by omega), if_pos (by omega)]
theorem rd_u1 {g : xe_G} {m0 : Nat} {q : Nat → Nat} {z : Nat × Nat} {I : rI} {R : rR} {M : mi_H} {n : Nat} {f : Nat → Int32} {p : Nat} (hR : RS g m0 q z I R M)  (hF : FK n f I R) (hin : p + 1 ≤ n) : pt (mT g) 249 [.ref m0, .int (nI p)] M (fun v M' => (v = some (.int (nI (by1 f p))) ∧ M = M')) := by
  have hn := hF.1
  refine (rm_u1 hR hF (x1 := nI p) (by rw [nI_val (by omega)]; omega) (by rw [nI_val (by omega)]; omega) (d := 3) (by decide)).pt.mono (fun v M' h => ⟨?_, h.2.symm⟩)
  rw [h.1, f1_nI (by omega)]
theorem rd_u2 {g : xe_G} {m0 : Nat} {q : Nat → Nat} {z : Nat × Nat} {I : rI} {R : rR} {M : mi_H} {n : Nat} {f : Nat → Int32} {p : Nat} (hR : RS g m0 q z I R M)  (hF : FK n f I R) (hin : p + 2 ≤ n) : pt (mT g) 250 [.ref m0, .int (nI p)] M (fun v M' => (v = some (.int (nI (by2 f p))) ∧ M = M')) := by
  have hn := hF.1
  refine (rm_u2 hR hF (x1 := nI p) (by rw [nI_val (by omega)]; omega) (by rw [nI_val (by omega)]; omega) (d := 3) (by decide)).pt.mono (fun v M' h => ⟨?_, h.2.symm⟩)
  rw [h.1, f2_nI (by omega)]
theorem rd_u4 {g : xe_G} {m0 : Nat} {q : Nat → Nat} {z : Nat × Nat} {I : rI} {R : rR} {M : mi_H} {n : Nat} {f : Nat → Int32} {p : Nat} (hR : RS g m0 q z I R M)  (hF : FK n f I R) (hin : p + 4 ≤ n) : pt (mT g) 251 [.ref m0, .int (nI p)] M (fun v M' => (v = some (.long (nL (by4 f p))) ∧ M = M')) := by
  have hn := hF.1
  refine (rm_u4 hR hF (x1 := nI p) (by rw [nI_val (by omega)]; omega) (by rw [nI_val (by omega)]; omega) (d := 3) (by decide)).pt.mono (fun v M' h => ⟨?_, h.2.symm⟩)
  rw [h.1, f4_nL (by omega)]
set_option maxHeartbeats 1000000 in
theorem rd_wrong {g : xe_G} {m0 : Nat} {q : Nat → Nat} {z : Nat × Nat} {I : rI} {R : rR} {M : mi_H} {x1 x2 : Int32} (hR : RS g m0 q z I R M)    : pt (mT g) 257 [.ref m0, .int x1, .int x2] M (fun v M' => (∃  (I' : rI) (R' : rR), v = some (.int 0) ∧ RS g m0 q z I' R' M' ∧ eqI [47, 48] I I' ∧ eqR [] R R' ∧ I' 47 = some x1 ∧ I' 48 = some x2)) := by
  refine pt_in (b := mb_257 g) rfl (fun kf => ?_)
  show pl (mT g) kf (mb_257 g).2 (0, [(0, .ref m0), (1, .int x1), (2, .int x2)], [], M) _
  have hEI : eqI [47, 48] I I := eqI.rf
  have hER : eqR [] R R := eqR.rf
  refine ps_st (S' := (1, [(0, .ref m0), (1, .int x1), (2, .int x2)], [.ref m0], M)) rfl rfl rfl ?_
  refine ps_st (S' := (2, [(0, .ref m0), (1, .int x1), (2, .int x2)], [.int x1, .ref m0], M)) rfl rfl rfl ?_
  refine pr_put (j := 47) rfl hR rfl (fun M1 I2 hR3 hi4 hI5 => ?_)
  have hEI6 := hEI.put hI5 (by decide)
  show pl _ _ _ (5, [(0, .ref m0), (1, .int x1), (2, .int x2)], [], M1) _
  refine ps_st (S' := (6, [(0, .ref m0), (1, .int x1), (2, .int x2)], [.ref m0], M1)) rfl rfl rfl ?_
  refine ps_st (S' := (7, [(0, .ref m0), (1, .int x1), (2, .int x2)], [.int x2, .ref m0], M1)) rfl rfl rfl ?_
  refine pr_put (j := 48) rfl hR3 rfl (fun M7 I8 hR9 hi10 hI11 => ?_)
  have hi12 := (hI11 47 (by decide)).trans hi4
  have hEI13 := hEI6.put hI11 (by decide)
  show pl _ _ _ (10, [(0, .ref m0), (1, .int x1), (2, .int x2)], [], M7) _
  refine ps_st (S' := (11, [(0, .ref m0), (1, .int x1), (2, .int x2)], [.int 0], M7)) rfl rfl rfl ?_
  exact ps_ret rfl rfl (⟨I8, R, rfl, hR9, hEI13, hER, hi12, hi10⟩)
set_option maxHeartbeats 1000000 in
theorem rd_item {g : xe_G} {m0 : Nat} {q : Nat → Nat} {z : Nat × Nat} {I : rI} {R : rR} {M : mi_H} {n : Nat} {f : Nat → Int32} {p k : Nat} (hR : RS g m0 q z I R M) (hi50 : I 50 = some (nI p)) (hF : FK n f I R) (hp : p ≤ n) (hk : k < 8589934592) : pt (mT g) 219 [.ref m0, .long (nL k)] M (fun v M' => (∃  (I' : rI) (R' : rR), (p + k ≤ n) ∧ v = some (.int 1) ∧ RS g m0 q z I' R' M' ∧ eqI [47, 48] I I' ∧ eqR [] R R') ∨ (∃  (I' : rI) (R' : rR), (n < p + k) ∧ v = some (.int 0) ∧ RS g m0 q z I' R' M' ∧ eqI [47, 48] I I' ∧ eqR [] R R' ∧ I' 47 = some 1 ∧ I' 48 = some (nI p))) := by
  refine pt_in (b := mb_219 g) rfl (fun kf => ?_)
  show pl (mT g) kf (mb_219 g).2 (0, [(0, .ref m0), (1, .long (nL k))], [], M) _
  have hEI : eqI [47, 48] I I := eqI.rf
  have hER : eqR [] R R := eqR.rf
  have hn := hF.1
  refine ps_st (S' := (1, [(0, .ref m0), (1, .long (nL k))], [.ref m0], M)) rfl rfl rfl ?_
  refine pr_int (j := 50) (S' := (4, [(0, .ref m0), (1, .long (nL k))], [.int (nI p)], M)) rfl hR rfl hi50 rfl ?_
  refine ps_st (S' := (5, [(0, .ref m0), (1, .long (nL k))], [.long (Int32.toInt64 (nI p))], M)) rfl rfl rfl ?_
  rw [i2l_nL (p := p) (by omega)]
  show pl _ _ _ (_, [(0, .ref m0), (1, .long (nL k))], [.long (nL p)], M) _
  refine ps_st (S' := (6, [(0, .ref m0), (1, .long (nL k))], [.long (nL k), .long (nL p)], M)) rfl rfl rfl ?_
  refine ps_st (S' := (7, [(0, .ref m0), (1, .long (nL k))], [.long ((nL p) + (nL k))], M)) rfl rfl rfl ?_
  rw [nL_add (p := p) (k := k) (x := (nL k)) rfl (by omega)]
  show pl _ _ _ (_, [(0, .ref m0), (1, .long (nL k))], [.long (nL (p + k))], M) _
  refine ps_st (S' := (8, [(0, .ref m0), (1, .long (nL k))], [.ref m0, .long (nL (p + k))], M)) rfl rfl rfl ?_
  refine pr_int (j := 16) (S' := (11, [(0, .ref m0), (1, .long (nL k))], [.int (nI n), .long (nL (p + k))], M)) rfl hR rfl hF.2.2.1 rfl ?_
  refine ps_st (S' := (12, [(0, .ref m0), (1, .long (nL k))], [.long (Int32.toInt64 (nI n)), .long (nL (p + k))], M)) rfl rfl rfl ?_
  rw [i2l_nL (p := n) (by omega)]
  show pl _ _ _ (_, [(0, .ref m0), (1, .long (nL k))], [.long (nL n), .long (nL (p + k))], M) _
  refine ps_st (S' := (13, [(0, .ref m0), (1, .long (nL k))], [.int (lg_cmp (nL (p + k)) (nL n))], M)) rfl rfl rfl ?_
  refine ps_if (S1 := (28, [], [], M)) (S2 := (16, [(0, .ref m0), (1, .long (nL k))], [], M)) rfl rfl rfl (fun c_13 => ?_) (fun c_13 => ?_)
  · have n_13 : p + k ≤ n := (cL_le (p := p + k) (k := n) (x := (nL (p + k))) (y := (nL n)) rfl rfl (by omega) (by omega)).mp (of_decide_eq_true c_13)
    refine ps_st (S' := (29, [], [.int 1], M)) rfl rfl rfl ?_
    refine ps_st (S' := (33, [], [.int 1], M)) rfl rfl rfl ?_
    exact ps_ret rfl rfl (Or.inl ⟨I, R, by omega, rfl, hR, hEI, hER⟩)
  · have n_13 : ¬ (p + k ≤ n) := fun h9 => of_decide_eq_false c_13 ((cL_le (p := p + k) (k := n) (x := (nL (p + k))) (y := (nL n)) rfl rfl (by omega) (by omega)).mpr h9)
    refine ps_st (S' := (17, [(0, .ref m0), (1, .long (nL k))], [.ref m0], M)) rfl rfl rfl ?_
    refine ps_st (S' := (18, [(0, .ref m0), (1, .long (nL k))], [.int 1, .ref m0], M)) rfl rfl rfl ?_
    refine ps_st (S' := (19, [(0, .ref m0), (1, .long (nL k))], [.ref m0, .int 1, .ref m0], M)) rfl rfl rfl ?_
    refine pr_int (j := 50) (S' := (22, [(0, .ref m0), (1, .long (nL k))], [.int (nI p), .int 1, .ref m0], M)) rfl hR rfl hi50 rfl ?_
    refine pl_call (a := [.ref m0, .int 1, .int (nI p)]) (rest := []) rfl rfl rfl (rd_wrong (x1 := 1) (x2 := (nI p)) hR) (fun v1 M2 q3 => ?_)
    obtain ⟨I4, R5, rfl, hR6, hI7, hX8, hi9, hi10⟩ := q3
    have hi11 := (hI7 50 (by decide)).trans hi50
    have hi12 := (hI7 16 (by decide)).trans hF.2.2.1
    have hF_13 := hF.mono (cIx hI7 (by decide)) (cRx hX8 (by decide))
    have hEI14 := hEI.tr hI7 (by decide)
    have hER15 := hER.tr hX8 (by decide)
    show pl _ _ _ (25, [(0, .ref m0), (1, .long (nL k))], [.int 0], M2) _
    refine ps_if (S1 := (32, [(0, .ref m0), (1, .long (nL k))], [], M2)) (S2 := (28, [], [], M2)) rfl rfl rfl (fun c_25 => ?_) (fun c_25 => ?_)
    rotate_left
    · exact absurd (by decide) (of_decide_eq_false c_25)
    refine ps_st (S' := (33, [], [.int 0], M2)) rfl rfl rfl ?_
    exact ps_ret rfl rfl (Or.inr ⟨I4, R5, by omega, rfl, hR6, hEI14, hER15, hi9, hi10⟩)
set_option maxHeartbeats 1000000 in
theorem rd_attributes {g : xe_G} {m0 : Nat} {q : Nat → Nat} {z : Nat × Nat} {I : rI} {R : rR} {M : mi_H} {n : Nat} {f : Nat → Int32} {p : Nat} (hR : RS g m0 q z I R M) (hi50 : I 50 = some (nI p)) (hF : FK n f I R) (hp : p ≤ n) : pt (mT g) 178 [.ref m0] M (fun v M' => (∃ (p' : Nat) (I' : rI) (R' : rR), (s_attributes f n p = .inr p') ∧ v = some (.int 1) ∧ RS g m0 q z I' R' M' ∧ eqI [47, 48, 50] I I' ∧ eqR [] R R' ∧ I' 50 = some (nI p')) ∨ (∃ (e : Nat × Nat) (I' : rI) (R' : rR), (s_attributes f n p = .inl e) ∧ v = some (.int 0) ∧ RS g m0 q z I' R' M' ∧ eqI [47, 48, 50] I I' ∧ eqR [] R R' ∧ I' 47 = some (nI e.1) ∧ I' 48 = some (nI e.2))) := by
  refine pt_in (b := mb_178 g) rfl (fun kf => ?_)
  show pl (mT g) kf (mb_178 g).2 (0, [(0, .ref m0)], [], M) _
  have hEI : eqI [47, 48, 50] I I := eqI.rf
  have hER : eqR [] R R := eqR.rf
  have hn := hF.1
  have LL : ∀ (kf : Nat), (∀ (i p1 : Nat) (M1 : mi_H) (I1 : rI) (R1 : rR), (RS g m0 q z I1 R1 M1) → (eqI [47, 48, 50] I I1) → (eqR [] R R1) → (I1 50 = some (nI p1)) → (FK n f I1 R1) → (i ≤ by2 f p) → (p1 ≤ n) → (s_atts f n (by2 f p - i) p1 = s_attributes f n p) →  pl (mT g) kf (mb_178 g).2 (33, [(0, .ref m0), (1, .int (nI (by2 f p))), (2, .int (nI i))], [], M1) (fun v M' => (∃ (p' : Nat) (I' : rI) (R' : rR), (s_attributes f n p = .inr p') ∧ v = some (.int 1) ∧ RS g m0 q z I' R' M' ∧ eqI [47, 48, 50] I I' ∧ eqR [] R R' ∧ I' 50 = some (nI p')) ∨ (∃ (e : Nat × Nat) (I' : rI) (R' : rR), (s_attributes f n p = .inl e) ∧ v = some (.int 0) ∧ RS g m0 q z I' R' M' ∧ eqI [47, 48, 50] I I' ∧ eqR [] R R' ∧ I' 47 = some (nI e.1) ∧ I' 48 = some (nI e.2)))) := by
    intro kf
    induction kf with
    | zero => exact (by intros; exact pl_0)
    | succ kf ih =>
      intro i p1 M1 I1 R1 hR1 hEI1 hER1 hl50 hF1 hi hp1 hs
      have hu9 := by2_lt f p
      refine ps_st1 (S' := (34, [(0, .ref m0), (1, .int (nI (by2 f p))), (2, .int (nI i))], [.int (nI i)], M1)) rfl rfl rfl ?_
      refine ps_st (S' := (35, [(0, .ref m0), (1, .int (nI (by2 f p))), (2, .int (nI i))], [.int (nI (by2 f p)), .int (nI i)], M1)) rfl rfl rfl ?_
      refine ps_if2 (S1 := (118, [(0, .ref m0), (1, .int (nI (by2 f p))), (2, .int (nI i))], [], M1)) (S2 := (38, [(0, .ref m0), (1, .int (nI (by2 f p))), (2, .int (nI i))], [], M1)) rfl rfl rfl (fun c_35 => ?_) (fun c_35 => ?_)
      · have c_35 : (nI (by2 f p)) ≤ (nI i) := of_decide_eq_true c_35
        have n_35 : by2 f p ≤ i := (le_nI (p := by2 f p) (n := i) (Nat.lt_trans (by2_lt _ _) (by decide)) (by omega)).mp c_35
        refine ps_st (S' := (119, [(0, .ref m0), (1, .int (nI (by2 f p))), (2, .int (nI i))], [.int 1], M1)) rfl rfl rfl ?_
        exact ps_ret rfl rfl (Or.inl ⟨p1, I1, R1, by rw [← hs, show by2 f p - i = 0 by omega]; rfl, rfl, hR1, hEI1, hER1, hl50⟩)
      · have c_35 : ¬ ((nI (by2 f p)) ≤ (nI i)) := of_decide_eq_false c_35
        have n_35 : ¬ (by2 f p ≤ i) := fun h9 => c_35 ((le_nI (p := by2 f p) (n := i) (Nat.lt_trans (by2_lt _ _) (by decide)) (by omega)).mpr h9)
        refine ps_st (S' := (39, [(0, .ref m0), (1, .int (nI (by2 f p))), (2, .int (nI i))], [.ref m0], M1)) rfl rfl rfl ?_
        refine ps_st (S' := (42, [(0, .ref m0), (1, .int (nI (by2 f p))), (2, .int (nI i))], [.long 2, .ref m0], M1)) rfl rfl rfl ?_
        refine pl_call (a := [.ref m0, .long 2]) (rest := []) rfl rfl rfl (rd_item (n := n) (f := f) (p := p1) (k := 2) hR1 hl50 hF1 (by omega) (by decide)) (fun v1 M2 q3 => ?_)
        rcases q3 with q3 | q3
        · skip
          obtain ⟨I4, R5, q42_s, rfl, hR6, hI7, hX8⟩ := q3
          have hi9 := (hI7 50 (by decide)).trans hl50
          have hF_10 := hF1.mono (cIx hI7 (by decide)) (cRx hX8 (by decide))
          have hEI11 := hEI1.tr hI7 (by decide)
          have hER12 := hER1.tr hX8 (by decide)
          show pl _ _ _ (45, [(0, .ref m0), (1, .int (nI (by2 f p))), (2, .int (nI i))], [.int 1], M2) _
          refine ps_if (S1 := (50, [(0, .ref m0), (1, .int (nI (by2 f p))), (2, .int (nI i))], [], M2)) (S2 := (48, [(0, .ref m0), (1, .int (nI (by2 f p))), (2, .int (nI i))], [], M2)) rfl rfl rfl (fun c_45 => ?_) (fun c_45 => ?_)
          rotate_left
          · exact absurd (by decide) (of_decide_eq_false c_45)
          refine ps_st (S' := (51, [(0, .ref m0), (1, .int (nI (by2 f p))), (2, .int (nI i))], [.ref m0], M2)) rfl rfl rfl ?_
          refine ps_st (S' := (52, [(0, .ref m0), (1, .int (nI (by2 f p))), (2, .int (nI i))], [.ref m0, .ref m0], M2)) rfl rfl rfl ?_
          refine pr_int (j := 50) (S' := (55, [(0, .ref m0), (1, .int (nI (by2 f p))), (2, .int (nI i))], [.int (nI p1), .ref m0], M2)) rfl hR6 rfl hi9 rfl ?_
          refine ps_st (S' := (56, [(0, .ref m0), (1, .int (nI (by2 f p))), (2, .int (nI i))], [.int 2, .int (nI p1), .ref m0], M2)) rfl rfl rfl ?_
          refine ps_st (S' := (57, [(0, .ref m0), (1, .int (nI (by2 f p))), (2, .int (nI i))], [.int ((nI p1) + 2), .ref m0], M2)) rfl rfl rfl ?_
          rw [nI_add1 (p := p1) (k := 2) (x := 2) rfl (by omega)]
          show pl _ _ _ (_, [(0, .ref m0), (1, .int (nI (by2 f p))), (2, .int (nI i))], [.int (nI (p1 + 2)), .ref m0], M2) _
          refine pr_put (j := 50) rfl hR6 rfl (fun M13 I14 hR15 hi16 hI17 => ?_)
          have hF_18 := hF_10.mono (pIx hI17 (by decide)) (fun _ _ => rfl)
          have hEI19 := hEI11.put hI17 (by decide)
          show pl _ _ _ (60, [(0, .ref m0), (1, .int (nI (by2 f p))), (2, .int (nI i))], [], M13) _
          refine ps_st (S' := (61, [(0, .ref m0), (1, .int (nI (by2 f p))), (2, .int (nI i))], [.ref m0], M13)) rfl rfl rfl ?_
          refine ps_st (S' := (64, [(0, .ref m0), (1, .int (nI (by2 f p))), (2, .int (nI i))], [.long 4, .ref m0], M13)) rfl rfl rfl ?_
          refine pl_call (a := [.ref m0, .long 4]) (rest := []) rfl rfl rfl (rd_item (n := n) (f := f) (p := (p1 + 2)) (k := 4) hR15 hi16 hF_18 (by omega) (by decide)) (fun v20 M21 q22 => ?_)
          rcases q22 with q22 | q22
          · skip
            obtain ⟨I23, R24, q64_s, rfl, hR25, hI26, hX27⟩ := q22
            have hi28 := (hI26 50 (by decide)).trans hi16
            have hF_29 := hF_18.mono (cIx hI26 (by decide)) (cRx hX27 (by decide))
            have hEI30 := hEI19.tr hI26 (by decide)
            have hER31 := hER12.tr hX27 (by decide)
            show pl _ _ _ (67, [(0, .ref m0), (1, .int (nI (by2 f p))), (2, .int (nI i))], [.int 1], M21) _
            refine ps_if (S1 := (72, [(0, .ref m0), (1, .int (nI (by2 f p))), (2, .int (nI i))], [], M21)) (S2 := (70, [(0, .ref m0), (1, .int (nI (by2 f p))), (2, .int (nI i))], [], M21)) rfl rfl rfl (fun c_67 => ?_) (fun c_67 => ?_)
            rotate_left
            · exact absurd (by decide) (of_decide_eq_false c_67)
            refine ps_st (S' := (73, [(0, .ref m0), (1, .int (nI (by2 f p))), (2, .int (nI i))], [.ref m0], M21)) rfl rfl rfl ?_
            refine ps_st (S' := (74, [(0, .ref m0), (1, .int (nI (by2 f p))), (2, .int (nI i))], [.ref m0, .ref m0], M21)) rfl rfl rfl ?_
            refine pr_int (j := 50) (S' := (77, [(0, .ref m0), (1, .int (nI (by2 f p))), (2, .int (nI i))], [.int (nI (p1 + 2)), .ref m0], M21)) rfl hR25 rfl hi28 rfl ?_
            refine pl_call (a := [.ref m0, .int (nI (p1 + 2))]) (rest := []) rfl rfl rfl (rd_u4 (n := n) (f := f) (p := (p1 + 2)) hR25 hF_29 (by omega)) (fun v32 M33 q34 => ?_)
            obtain ⟨rfl, rfl⟩ := q34
            show pl _ _ _ (80, [(0, .ref m0), (1, .int (nI (by2 f p))), (2, .int (nI i))], [.long (nL (by4 f (p1 + 2)))], M21) _
            have hu_77 := by4_lt f (p1 + 2)
            refine ps_st (S' := (81, [(3, .long (nL (by4 f (p1 + 2)))), (0, .ref m0), (1, .int (nI (by2 f p))), (2, .int (nI i))], [], M21)) rfl rfl rfl ?_
            refine ps_st (S' := (82, [(3, .long (nL (by4 f (p1 + 2)))), (0, .ref m0), (1, .int (nI (by2 f p))), (2, .int (nI i))], [.ref m0], M21)) rfl rfl rfl ?_
            refine ps_st (S' := (83, [(3, .long (nL (by4 f (p1 + 2)))), (0, .ref m0), (1, .int (nI (by2 f p))), (2, .int (nI i))], [.ref m0, .ref m0], M21)) rfl rfl rfl ?_
            refine pr_int (j := 50) (S' := (86, [(3, .long (nL (by4 f (p1 + 2)))), (0, .ref m0), (1, .int (nI (by2 f p))), (2, .int (nI i))], [.int (nI (p1 + 2)), .ref m0], M21)) rfl hR25 rfl hi28 rfl ?_
            refine ps_st (S' := (87, [(3, .long (nL (by4 f (p1 + 2)))), (0, .ref m0), (1, .int (nI (by2 f p))), (2, .int (nI i))], [.int 4, .int (nI (p1 + 2)), .ref m0], M21)) rfl rfl rfl ?_
            refine ps_st (S' := (88, [(3, .long (nL (by4 f (p1 + 2)))), (0, .ref m0), (1, .int (nI (by2 f p))), (2, .int (nI i))], [.int ((nI (p1 + 2)) + 4), .ref m0], M21)) rfl rfl rfl ?_
            rw [nI_add1 (p := p1 + 2) (k := 4) (x := 4) rfl (by omega)]
            show pl _ _ _ (_, [(3, .long (nL (by4 f (p1 + 2)))), (0, .ref m0), (1, .int (nI (by2 f p))), (2, .int (nI i))], [.int (nI (p1 + 6)), .ref m0], M21) _
            refine pr_put (j := 50) rfl hR25 rfl (fun M35 I36 hR37 hi38 hI39 => ?_)
            have hF_40 := hF_29.mono (pIx hI39 (by decide)) (fun _ _ => rfl)
            have hEI41 := hEI30.put hI39 (by decide)
            show pl _ _ _ (91, [(3, .long (nL (by4 f (p1 + 2)))), (0, .ref m0), (1, .int (nI (by2 f p))), (2, .int (nI i))], [], M35) _
            refine ps_st (S' := (92, [(3, .long (nL (by4 f (p1 + 2)))), (0, .ref m0), (1, .int (nI (by2 f p))), (2, .int (nI i))], [.ref m0], M35)) rfl rfl rfl ?_
            refine ps_st (S' := (93, [(3, .long (nL (by4 f (p1 + 2)))), (0, .ref m0), (1, .int (nI (by2 f p))), (2, .int (nI i))], [.long (nL (by4 f (p1 + 2))), .ref m0], M35)) rfl rfl rfl ?_
            refine pl_call (a := [.ref m0, .long (nL (by4 f (p1 + 2)))]) (rest := []) rfl rfl rfl (rd_item (n := n) (f := f) (p := (p1 + 6)) (k := (by4 f (p1 + 2))) hR37 hi38 hF_40 (by omega) (by omega)) (fun v42 M43 q44 => ?_)
            rcases q44 with q44 | q44
            · skip
              obtain ⟨I45, R46, q93_s, rfl, hR47, hI48, hX49⟩ := q44
              have hi51 := (hI48 50 (by decide)).trans hi38
              have hF_52 := hF_40.mono (cIx hI48 (by decide)) (cRx hX49 (by decide))
              have hEI53 := hEI41.tr hI48 (by decide)
              have hER54 := hER31.tr hX49 (by decide)
              show pl _ _ _ (96, [(3, .long (nL (by4 f (p1 + 2)))), (0, .ref m0), (1, .int (nI (by2 f p))), (2, .int (nI i))], [.int 1], M43) _
              refine ps_if (S1 := (101, [(3, .long (nL (by4 f (p1 + 2)))), (0, .ref m0), (1, .int (nI (by2 f p))), (2, .int (nI i))], [], M43)) (S2 := (99, [(3, .long (nL (by4 f (p1 + 2)))), (0, .ref m0), (1, .int (nI (by2 f p))), (2, .int (nI i))], [], M43)) rfl rfl rfl (fun c_96 => ?_) (fun c_96 => ?_)
              rotate_left
              · exact absurd (by decide) (of_decide_eq_false c_96)
              refine ps_st (S' := (102, [(3, .long (nL (by4 f (p1 + 2)))), (0, .ref m0), (1, .int (nI (by2 f p))), (2, .int (nI i))], [.ref m0], M43)) rfl rfl rfl ?_
              refine ps_st (S' := (103, [(3, .long (nL (by4 f (p1 + 2)))), (0, .ref m0), (1, .int (nI (by2 f p))), (2, .int (nI i))], [.ref m0, .ref m0], M43)) rfl rfl rfl ?_
              refine pr_int (j := 50) (S' := (106, [(3, .long (nL (by4 f (p1 + 2)))), (0, .ref m0), (1, .int (nI (by2 f p))), (2, .int (nI i))], [.int (nI (p1 + 6)), .ref m0], M43)) rfl hR47 rfl hi51 rfl ?_
              refine ps_st (S' := (107, [(3, .long (nL (by4 f (p1 + 2)))), (0, .ref m0), (1, .int (nI (by2 f p))), (2, .int (nI i))], [.long (nL (by4 f (p1 + 2))), .int (nI (p1 + 6)), .ref m0], M43)) rfl rfl rfl ?_
              refine ps_st (S' := (108, [(3, .long (nL (by4 f (p1 + 2)))), (0, .ref m0), (1, .int (nI (by2 f p))), (2, .int (nI i))], [.int (Int64.toInt32 (nL (by4 f (p1 + 2)))), .int (nI (p1 + 6)), .ref m0], M43)) rfl rfl rfl ?_
              rw [l2i_nL (p := by4 f (p1 + 2)) (by omega)]
              show pl _ _ _ (_, [(3, .long (nL (by4 f (p1 + 2)))), (0, .ref m0), (1, .int (nI (by2 f p))), (2, .int (nI i))], [.int (nI (by4 f (p1 + 2))), .int (nI (p1 + 6)), .ref m0], M43) _
              refine ps_st (S' := (109, [(3, .long (nL (by4 f (p1 + 2)))), (0, .ref m0), (1, .int (nI (by2 f p))), (2, .int (nI i))], [.int ((nI (p1 + 6)) + (nI (by4 f (p1 + 2)))), .ref m0], M43)) rfl rfl rfl ?_
              rw [nI_add1 (p := p1 + 6) (k := by4 f (p1 + 2)) (x := (nI (by4 f (p1 + 2)))) rfl (by omega)]
              show pl _ _ _ (_, [(3, .long (nL (by4 f (p1 + 2)))), (0, .ref m0), (1, .int (nI (by2 f p))), (2, .int (nI i))], [.int (nI (p1 + 6 + by4 f (p1 + 2))), .ref m0], M43) _
              refine pr_put (j := 50) rfl hR47 rfl (fun M55 I56 hR57 hi58 hI59 => ?_)
              have hF_60 := hF_52.mono (pIx hI59 (by decide)) (fun _ _ => rfl)
              have hEI61 := hEI53.put hI59 (by decide)
              show pl _ _ _ (112, [(3, .long (nL (by4 f (p1 + 2)))), (0, .ref m0), (1, .int (nI (by2 f p))), (2, .int (nI i))], [], M55) _
              refine ps_st (S' := (115, [(2, .int ((nI i) + 1)), (3, .long (nL (by4 f (p1 + 2)))), (0, .ref m0), (1, .int (nI (by2 f p)))], [], M55)) rfl rfl rfl ?_
              rw [nI_add1 (p := i) (k := 1) (x := 1) rfl (by omega)]
              show pl _ _ _ (_, [(2, .int (nI (i + 1))), (3, .long (nL (by4 f (p1 + 2)))), (0, .ref m0), (1, .int (nI (by2 f p)))], [], M55) _
              refine ps_st (S' := (33, [(0, .ref m0), (1, .int (nI (by2 f p))), (2, .int (nI (i + 1)))], [], M55)) rfl rfl rfl ?_
              exact ih (i + 1) (p1 + 6 + by4 f (p1 + 2)) M55 I56 R46 hR57 hEI61 hER54 hi58 hF_60 (by omega) (by omega) (by
                  rw [← hs, s_atts_st (i := i) (p := p1) (by omega)]
                  rw [if_neg (by omega), if_neg (by omega), if_neg (by omega)])
            · skip
              obtain ⟨I62, R63, q93_s, rfl, hR64, hI65, hX66, hi67, hi68⟩ := q44
              have hi69 := (hI65 50 (by decide)).trans hi38
              have hF_70 := hF_40.mono (cIx hI65 (by decide)) (cRx hX66 (by decide))
              have hEI71 := hEI41.tr hI65 (by decide)
              have hER72 := hER31.tr hX66 (by decide)
              show pl _ _ _ (96, [(3, .long (nL (by4 f (p1 + 2)))), (0, .ref m0), (1, .int (nI (by2 f p))), (2, .int (nI i))], [.int 0], M43) _
              refine ps_if (S1 := (101, [(3, .long (nL (by4 f (p1 + 2)))), (0, .ref m0), (1, .int (nI (by2 f p))), (2, .int (nI i))], [], M43)) (S2 := (99, [(3, .long (nL (by4 f (p1 + 2)))), (0, .ref m0), (1, .int (nI (by2 f p))), (2, .int (nI i))], [], M43)) rfl rfl rfl (fun c_96 => ?_) (fun c_96 => ?_)
              · exact absurd (of_decide_eq_true c_96) (by decide)
              refine ps_st (S' := (100, [(3, .long (nL (by4 f (p1 + 2)))), (0, .ref m0), (1, .int (nI (by2 f p))), (2, .int (nI i))], [.int 0], M43)) rfl rfl rfl ?_
              exact ps_ret rfl rfl (Or.inr ⟨(1, p1 + 6), I62, R63, by
                  rw [← hs, s_atts_st (i := i) (p := p1) (by omega)]
                  rw [if_neg (by omega), if_neg (by omega), if_pos (by omega)], rfl, hR64, hEI71, hER72, hi67, hi68⟩)
          · skip
            obtain ⟨I73, R74, q64_s, rfl, hR75, hI76, hX77, hi78, hi79⟩ := q22
            have hi80 := (hI76 50 (by decide)).trans hi16
            have hF_81 := hF_18.mono (cIx hI76 (by decide)) (cRx hX77 (by decide))
            have hEI82 := hEI19.tr hI76 (by decide)
            have hER83 := hER12.tr hX77 (by decide)
            show pl _ _ _ (67, [(0, .ref m0), (1, .int (nI (by2 f p))), (2, .int (nI i))], [.int 0], M21) _
            refine ps_if (S1 := (72, [(0, .ref m0), (1, .int (nI (by2 f p))), (2, .int (nI i))], [], M21)) (S2 := (70, [(0, .ref m0), (1, .int (nI (by2 f p))), (2, .int (nI i))], [], M21)) rfl rfl rfl (fun c_67 => ?_) (fun c_67 => ?_)
            · exact absurd (of_decide_eq_true c_67) (by decide)
            refine ps_st (S' := (71, [(0, .ref m0), (1, .int (nI (by2 f p))), (2, .int (nI i))], [.int 0], M21)) rfl rfl rfl ?_
            exact ps_ret rfl rfl (Or.inr ⟨(1, p1 + 2), I73, R74, by
                rw [← hs, s_atts_st (i := i) (p := p1) (by omega)]
                rw [if_neg (by omega), if_pos (by omega)], rfl, hR75, hEI82, hER83, hi78, hi79⟩)
        · skip
          obtain ⟨I84, R85, q42_s, rfl, hR86, hI87, hX88, hi89, hi90⟩ := q3
          have hi91 := (hI87 50 (by decide)).trans hl50
          have hF_92 := hF1.mono (cIx hI87 (by decide)) (cRx hX88 (by decide))
          have hEI93 := hEI1.tr hI87 (by decide)
          have hER94 := hER1.tr hX88 (by decide)
          show pl _ _ _ (45, [(0, .ref m0), (1, .int (nI (by2 f p))), (2, .int (nI i))], [.int 0], M2) _
          refine ps_if (S1 := (50, [(0, .ref m0), (1, .int (nI (by2 f p))), (2, .int (nI i))], [], M2)) (S2 := (48, [(0, .ref m0), (1, .int (nI (by2 f p))), (2, .int (nI i))], [], M2)) rfl rfl rfl (fun c_45 => ?_) (fun c_45 => ?_)
          · exact absurd (of_decide_eq_true c_45) (by decide)
          refine ps_st (S' := (49, [(0, .ref m0), (1, .int (nI (by2 f p))), (2, .int (nI i))], [.int 0], M2)) rfl rfl rfl ?_
          exact ps_ret rfl rfl (Or.inr ⟨(1, p1), I84, R85, by
              rw [← hs, s_atts_st (i := i) (p := p1) (by omega)]
              rw [if_pos (by omega)], rfl, hR86, hEI93, hER94, hi89, hi90⟩)
  refine ps_st (S' := (1, [(0, .ref m0)], [.ref m0], M)) rfl rfl rfl ?_
  refine ps_st (S' := (4, [(0, .ref m0)], [.long 2, .ref m0], M)) rfl rfl rfl ?_
  refine pl_call (a := [.ref m0, .long 2]) (rest := []) rfl rfl rfl (rd_item (n := n) (f := f) (p := p) (k := 2) hR hi50 hF (by omega) (by decide)) (fun v95 M96 q97 => ?_)
  rcases q97 with q97 | q97
  · skip
    obtain ⟨I98, R99, q4_s, rfl, hR100, hI101, hX102⟩ := q97
    have hi103 := (hI101 50 (by decide)).trans hi50
    have hF_104 := hF.mono (cIx hI101 (by decide)) (cRx hX102 (by decide))
    have hEI105 := hEI.tr hI101 (by decide)
    have hER106 := hER.tr hX102 (by decide)
    show pl _ _ _ (7, [(0, .ref m0)], [.int 1], M96) _
    refine ps_if (S1 := (12, [(0, .ref m0)], [], M96)) (S2 := (10, [(0, .ref m0)], [], M96)) rfl rfl rfl (fun c_7 => ?_) (fun c_7 => ?_)
    rotate_left
    · exact absurd (by decide) (of_decide_eq_false c_7)
    refine ps_st (S' := (13, [(0, .ref m0)], [.ref m0], M96)) rfl rfl rfl ?_
    refine ps_st (S' := (14, [(0, .ref m0)], [.ref m0, .ref m0], M96)) rfl rfl rfl ?_
    refine pr_int (j := 50) (S' := (17, [(0, .ref m0)], [.int (nI p), .ref m0], M96)) rfl hR100 rfl hi103 rfl ?_
    refine pl_call (a := [.ref m0, .int (nI p)]) (rest := []) rfl rfl rfl (rd_u2 (n := n) (f := f) (p := p) hR100 hF_104 (by omega)) (fun v107 M108 q109 => ?_)
    obtain ⟨rfl, rfl⟩ := q109
    show pl _ _ _ (20, [(0, .ref m0)], [.int (nI (by2 f p))], M96) _
    have hu_17 := by2_lt f p
    refine ps_st (S' := (21, [(1, .int (nI (by2 f p))), (0, .ref m0)], [], M96)) rfl rfl rfl ?_
    refine ps_st (S' := (22, [(1, .int (nI (by2 f p))), (0, .ref m0)], [.ref m0], M96)) rfl rfl rfl ?_
    refine ps_st (S' := (23, [(1, .int (nI (by2 f p))), (0, .ref m0)], [.ref m0, .ref m0], M96)) rfl rfl rfl ?_
    refine pr_int (j := 50) (S' := (26, [(1, .int (nI (by2 f p))), (0, .ref m0)], [.int (nI p), .ref m0], M96)) rfl hR100 rfl hi103 rfl ?_
    refine ps_st (S' := (27, [(1, .int (nI (by2 f p))), (0, .ref m0)], [.int 2, .int (nI p), .ref m0], M96)) rfl rfl rfl ?_
    refine ps_st (S' := (28, [(1, .int (nI (by2 f p))), (0, .ref m0)], [.int ((nI p) + 2), .ref m0], M96)) rfl rfl rfl ?_
    rw [nI_add1 (p := p) (k := 2) (x := 2) rfl (by omega)]
    show pl _ _ _ (_, [(1, .int (nI (by2 f p))), (0, .ref m0)], [.int (nI (p + 2)), .ref m0], M96) _
    refine pr_put (j := 50) rfl hR100 rfl (fun M110 I111 hR112 hi113 hI114 => ?_)
    have hF_115 := hF_104.mono (pIx hI114 (by decide)) (fun _ _ => rfl)
    have hEI116 := hEI105.put hI114 (by decide)
    show pl _ _ _ (31, [(1, .int (nI (by2 f p))), (0, .ref m0)], [], M110) _
    refine ps_st (S' := (32, [(1, .int (nI (by2 f p))), (0, .ref m0)], [.int 0], M110)) rfl rfl rfl ?_
    refine ps_st (S' := (33, [(0, .ref m0), (1, .int (nI (by2 f p))), (2, .int 0)], [], M110)) rfl rfl rfl ?_
    exact (LL kf) (0) (p + 2) M110 I111 R99 hR112 hEI116 hER106 hi113 hF_115 (by omega) (by omega) (by
        unfold s_attributes
        rw [if_neg (by omega)]
        rfl)
  · skip
    obtain ⟨I117, R118, q4_s, rfl, hR119, hI120, hX121, hi122, hi123⟩ := q97
    have hi124 := (hI120 50 (by decide)).trans hi50
    have hF_125 := hF.mono (cIx hI120 (by decide)) (cRx hX121 (by decide))
    have hEI126 := hEI.tr hI120 (by decide)
    have hER127 := hER.tr hX121 (by decide)
    show pl _ _ _ (7, [(0, .ref m0)], [.int 0], M96) _
    refine ps_if (S1 := (12, [(0, .ref m0)], [], M96)) (S2 := (10, [(0, .ref m0)], [], M96)) rfl rfl rfl (fun c_7 => ?_) (fun c_7 => ?_)
    · exact absurd (of_decide_eq_true c_7) (by decide)
    refine ps_st (S' := (11, [(0, .ref m0)], [.int 0], M96)) rfl rfl rfl ?_
    exact ps_ret rfl rfl (Or.inr ⟨(1, p), I117, R118, by
        unfold s_attributes
        rw [if_pos (by omega)], rfl, hR119, hEI126, hER127, hi122, hi123⟩)
set_option maxHeartbeats 1000000 in
theorem rd_members {g : xe_G} {m0 : Nat} {q : Nat → Nat} {z : Nat × Nat} {I : rI} {R : rR} {M : mi_H} {n : Nat} {f : Nat → Int32} {p : Nat} (hR : RS g m0 q z I R M) (hi50 : I 50 = some (nI p)) (hF : FK n f I R) (hp : p ≤ n) : pt (mT g) 224 [.ref m0] M (fun v M' => (∃ (p' : Nat) (I' : rI) (R' : rR), (s_mbs f n p = .inr p') ∧ v = some (.int 1) ∧ RS g m0 q z I' R' M' ∧ eqI [47, 48, 50] I I' ∧ eqR [] R R' ∧ I' 50 = some (nI p')) ∨ (∃ (e : Nat × Nat) (I' : rI) (R' : rR), (s_mbs f n p = .inl e) ∧ v = some (.int 0) ∧ RS g m0 q z I' R' M' ∧ eqI [47, 48, 50] I I' ∧ eqR [] R R' ∧ I' 47 = some (nI e.1) ∧ I' 48 = some (nI e.2))) := by
  refine pt_in (b := mb_224 g) rfl (fun kf => ?_)
  show pl (mT g) kf (mb_224 g).2 (0, [(0, .ref m0)], [], M) _
  have hEI : eqI [47, 48, 50] I I := eqI.rf
  have hER : eqR [] R R := eqR.rf
  have hn := hF.1
  have LL : ∀ (kf : Nat), (∀ (i p1 : Nat) (M1 : mi_H) (I1 : rI) (R1 : rR), (RS g m0 q z I1 R1 M1) → (eqI [47, 48, 50] I I1) → (eqR [] R R1) → (I1 50 = some (nI p1)) → (FK n f I1 R1) → (i ≤ by2 f p) → (p1 ≤ n) → (s_mems f n (by2 f p - i) p1 = s_mbs f n p) →  pl (mT g) kf (mb_224 g).2 (33, [(0, .ref m0), (1, .int (nI (by2 f p))), (2, .int (nI i))], [], M1) (fun v M' => (∃ (p' : Nat) (I' : rI) (R' : rR), (s_mbs f n p = .inr p') ∧ v = some (.int 1) ∧ RS g m0 q z I' R' M' ∧ eqI [47, 48, 50] I I' ∧ eqR [] R R' ∧ I' 50 = some (nI p')) ∨ (∃ (e : Nat × Nat) (I' : rI) (R' : rR), (s_mbs f n p = .inl e) ∧ v = some (.int 0) ∧ RS g m0 q z I' R' M' ∧ eqI [47, 48, 50] I I' ∧ eqR [] R R' ∧ I' 47 = some (nI e.1) ∧ I' 48 = some (nI e.2)))) ∧ (∀ (i p1 j : Nat) (M1 : mi_H) (I1 : rI) (R1 : rR), (RS g m0 q z I1 R1 M1) → (eqI [47, 48, 50] I I1) → (eqR [] R R1) → (I1 50 = some (nI (p1 + 2 * j))) → (FK n f I1 R1) → (i < by2 f p) → (j ≤ 3) → (p1 + 2 * j ≤ n) → (s_mems f n (by2 f p - i) p1 = s_mbs f n p) →  pl (mT g) kf (mb_224 g).2 (40, [(0, .ref m0), (1, .int (nI (by2 f p))), (2, .int (nI i)), (3, .int (nI j))], [], M1) (fun v M' => (∃ (p' : Nat) (I' : rI) (R' : rR), (s_mbs f n p = .inr p') ∧ v = some (.int 1) ∧ RS g m0 q z I' R' M' ∧ eqI [47, 48, 50] I I' ∧ eqR [] R R' ∧ I' 50 = some (nI p')) ∨ (∃ (e : Nat × Nat) (I' : rI) (R' : rR), (s_mbs f n p = .inl e) ∧ v = some (.int 0) ∧ RS g m0 q z I' R' M' ∧ eqI [47, 48, 50] I I' ∧ eqR [] R R' ∧ I' 47 = some (nI e.1) ∧ I' 48 = some (nI e.2)))) := by
    intro kf
    induction kf with
    | zero => exact ⟨by intros; exact pl_0, by intros; exact pl_0⟩
    | succ kf ih =>
      refine ⟨?_, ?_⟩
      · skip
        intro i p1 M1 I1 R1 hR1 hEI1 hER1 hl50 hF1 hi hp1 hs
        have hu9 := by2_lt f p
        refine ps_st1 (S' := (34, [(0, .ref m0), (1, .int (nI (by2 f p))), (2, .int (nI i))], [.int (nI i)], M1)) rfl rfl rfl ?_
        refine ps_st (S' := (35, [(0, .ref m0), (1, .int (nI (by2 f p))), (2, .int (nI i))], [.int (nI (by2 f p)), .int (nI i)], M1)) rfl rfl rfl ?_
        refine ps_if2 (S1 := (88, [(0, .ref m0), (1, .int (nI (by2 f p))), (2, .int (nI i))], [], M1)) (S2 := (38, [(0, .ref m0), (1, .int (nI (by2 f p))), (2, .int (nI i))], [], M1)) rfl rfl rfl (fun c_35 => ?_) (fun c_35 => ?_)
        · have c_35 : (nI (by2 f p)) ≤ (nI i) := of_decide_eq_true c_35
          have n_35 : by2 f p ≤ i := (le_nI (p := by2 f p) (n := i) (Nat.lt_trans (by2_lt _ _) (by decide)) (by omega)).mp c_35
          refine ps_st (S' := (89, [(0, .ref m0), (1, .int (nI (by2 f p))), (2, .int (nI i))], [.int 1], M1)) rfl rfl rfl ?_
          exact ps_ret rfl rfl (Or.inl ⟨p1, I1, R1, by rw [← hs, show by2 f p - i = 0 by omega]; rfl, rfl, hR1, hEI1, hER1, hl50⟩)
        · have c_35 : ¬ ((nI (by2 f p)) ≤ (nI i)) := of_decide_eq_false c_35
          have n_35 : ¬ (by2 f p ≤ i) := fun h9 => c_35 ((le_nI (p := by2 f p) (n := i) (Nat.lt_trans (by2_lt _ _) (by decide)) (by omega)).mpr h9)
          refine ps_st (S' := (39, [(0, .ref m0), (1, .int (nI (by2 f p))), (2, .int (nI i))], [.int 0], M1)) rfl rfl rfl ?_
          refine ps_st (S' := (40, [(0, .ref m0), (1, .int (nI (by2 f p))), (2, .int (nI i)), (3, .int 0)], [], M1)) rfl rfl rfl ?_
          exact ih.2 (i) (p1) (0) M1 I1 R1 hR1 hEI1 hER1 hl50 hF1 (by omega) (by omega) (by omega) (hs)
      · skip
        intro i p1 j M1 I1 R1 hR1 hEI1 hER1 hl50 hF1 hi hj hp1 hs
        have hu9 := by2_lt f p
        refine ps_st1 (S' := (41, [(0, .ref m0), (1, .int (nI (by2 f p))), (2, .int (nI i)), (3, .int (nI j))], [.int (nI j)], M1)) rfl rfl rfl ?_
        refine ps_st (S' := (42, [(0, .ref m0), (1, .int (nI (by2 f p))), (2, .int (nI i)), (3, .int (nI j))], [.int 3, .int (nI j)], M1)) rfl rfl rfl ?_
        refine ps_if2 (S1 := (73, [(0, .ref m0), (1, .int (nI (by2 f p))), (2, .int (nI i)), (3, .int (nI j))], [], M1)) (S2 := (45, [(0, .ref m0), (1, .int (nI (by2 f p))), (2, .int (nI i)), (3, .int (nI j))], [], M1)) rfl rfl rfl (fun c_42 => ?_) (fun c_42 => ?_)
        · have c_42 : 3 ≤ (nI j) := of_decide_eq_true c_42
          have n_42 : 3 ≤ j := (le_nI (p := 3) (n := j) (by decide) (by omega)).mp c_42
          refine ps_st (S' := (74, [(0, .ref m0), (1, .int (nI (by2 f p))), (2, .int (nI i)), (3, .int (nI j))], [.ref m0], M1)) rfl rfl rfl ?_
          refine pl_call (a := [.ref m0]) (rest := []) rfl rfl rfl (rd_attributes (n := n) (f := f) (p := (p1 + 2 * j)) hR1 hl50 hF1 (by omega)) (fun v1 M2 q3 => ?_)
          rcases q3 with q3 | q3
          · skip
            obtain ⟨p'4, I5, R6, q74_s, rfl, hR7, hI8, hX9, hi10⟩ := q3
            have hF_11 := hF1.mono (cIx hI8 (by decide)) (cRx hX9 (by decide))
            have hEI12 := hEI1.tr hI8 (by decide)
            have hER13 := hER1.tr hX9 (by decide)
            show pl _ _ _ (77, [(0, .ref m0), (1, .int (nI (by2 f p))), (2, .int (nI i)), (3, .int (nI j))], [.int 1], M2) _
            have hle_74 := s_attributes_le2 q74_s
            refine ps_if (S1 := (82, [(0, .ref m0), (1, .int (nI (by2 f p))), (2, .int (nI i)), (3, .int (nI j))], [], M2)) (S2 := (80, [(0, .ref m0), (1, .int (nI (by2 f p))), (2, .int (nI i)), (3, .int (nI j))], [], M2)) rfl rfl rfl (fun c_77 => ?_) (fun c_77 => ?_)
            rotate_left
            · exact absurd (by decide) (of_decide_eq_false c_77)
            refine ps_st (S' := (85, [(2, .int ((nI i) + 1)), (0, .ref m0), (1, .int (nI (by2 f p))), (3, .int (nI j))], [], M2)) rfl rfl rfl ?_
            rw [nI_add1 (p := i) (k := 1) (x := 1) rfl (by omega)]
            show pl _ _ _ (_, [(2, .int (nI (i + 1))), (0, .ref m0), (1, .int (nI (by2 f p))), (3, .int (nI j))], [], M2) _
            refine ps_st (S' := (33, [(0, .ref m0), (1, .int (nI (by2 f p))), (2, .int (nI (i + 1)))], [], M2)) rfl rfl rfl ?_
            exact ih.1 (i + 1) (p'4) M2 I5 R6 hR7 hEI12 hER13 hi10 hF_11 (by omega) (by omega) (by
                rw [← hs, s_mems_st (i := i) (p := p1) (by omega), if_neg (by omega), if_neg (by omega), if_neg (by omega)]
                have e3 : j = 3 := by omega
                subst e3
                rw [show s_attributes f n (p1 + 6) = _ from q74_s]
                first | done | rfl)
          · skip
            obtain ⟨e14, I15, R16, q74_s, rfl, hR17, hI18, hX19, hi20, hi21⟩ := q3
            have hF_22 := hF1.mono (cIx hI18 (by decide)) (cRx hX19 (by decide))
            have hEI23 := hEI1.tr hI18 (by decide)
            have hER24 := hER1.tr hX19 (by decide)
            show pl _ _ _ (77, [(0, .ref m0), (1, .int (nI (by2 f p))), (2, .int (nI i)), (3, .int (nI j))], [.int 0], M2) _
            refine ps_if (S1 := (82, [(0, .ref m0), (1, .int (nI (by2 f p))), (2, .int (nI i)), (3, .int (nI j))], [], M2)) (S2 := (80, [(0, .ref m0), (1, .int (nI (by2 f p))), (2, .int (nI i)), (3, .int (nI j))], [], M2)) rfl rfl rfl (fun c_77 => ?_) (fun c_77 => ?_)
            · exact absurd (of_decide_eq_true c_77) (by decide)
            refine ps_st (S' := (81, [(0, .ref m0), (1, .int (nI (by2 f p))), (2, .int (nI i)), (3, .int (nI j))], [.int 0], M2)) rfl rfl rfl ?_
            exact ps_ret rfl rfl (Or.inr ⟨e14, I15, R16, by
                rw [← hs, s_mems_st (i := i) (p := p1) (by omega), if_neg (by omega), if_neg (by omega), if_neg (by omega)]
                have e3 : j = 3 := by omega
                subst e3
                rw [show s_attributes f n (p1 + 6) = _ from q74_s]
                first | done | rfl, rfl, hR17, hEI23, hER24, hi20, hi21⟩)
        · have c_42 : ¬ (3 ≤ (nI j)) := of_decide_eq_false c_42
          have n_42 : ¬ (3 ≤ j) := fun h9 => c_42 ((le_nI (p := 3) (n := j) (by decide) (by omega)).mpr h9)
          refine ps_st (S' := (46, [(0, .ref m0), (1, .int (nI (by2 f p))), (2, .int (nI i)), (3, .int (nI j))], [.ref m0], M1)) rfl rfl rfl ?_
          refine ps_st (S' := (49, [(0, .ref m0), (1, .int (nI (by2 f p))), (2, .int (nI i)), (3, .int (nI j))], [.long 2, .ref m0], M1)) rfl rfl rfl ?_
          refine pl_call (a := [.ref m0, .long 2]) (rest := []) rfl rfl rfl (rd_item (n := n) (f := f) (p := (p1 + 2 * j)) (k := 2) hR1 hl50 hF1 (by omega) (by decide)) (fun v25 M26 q27 => ?_)
          rcases q27 with q27 | q27
          · skip
            obtain ⟨I28, R29, q49_s, rfl, hR30, hI31, hX32⟩ := q27
            have hi33 := (hI31 50 (by decide)).trans hl50
            have hF_34 := hF1.mono (cIx hI31 (by decide)) (cRx hX32 (by decide))
            have hEI35 := hEI1.tr hI31 (by decide)
            have hER36 := hER1.tr hX32 (by decide)
            show pl _ _ _ (52, [(0, .ref m0), (1, .int (nI (by2 f p))), (2, .int (nI i)), (3, .int (nI j))], [.int 1], M26) _
            refine ps_if (S1 := (57, [(0, .ref m0), (1, .int (nI (by2 f p))), (2, .int (nI i)), (3, .int (nI j))], [], M26)) (S2 := (55, [(0, .ref m0), (1, .int (nI (by2 f p))), (2, .int (nI i)), (3, .int (nI j))], [], M26)) rfl rfl rfl (fun c_52 => ?_) (fun c_52 => ?_)
            rotate_left
            · exact absurd (by decide) (of_decide_eq_false c_52)
            refine ps_st (S' := (58, [(0, .ref m0), (1, .int (nI (by2 f p))), (2, .int (nI i)), (3, .int (nI j))], [.ref m0], M26)) rfl rfl rfl ?_
            refine ps_st (S' := (59, [(0, .ref m0), (1, .int (nI (by2 f p))), (2, .int (nI i)), (3, .int (nI j))], [.ref m0, .ref m0], M26)) rfl rfl rfl ?_
            refine pr_int (j := 50) (S' := (62, [(0, .ref m0), (1, .int (nI (by2 f p))), (2, .int (nI i)), (3, .int (nI j))], [.int (nI (p1 + 2 * j)), .ref m0], M26)) rfl hR30 rfl hi33 rfl ?_
            refine ps_st (S' := (63, [(0, .ref m0), (1, .int (nI (by2 f p))), (2, .int (nI i)), (3, .int (nI j))], [.int 2, .int (nI (p1 + 2 * j)), .ref m0], M26)) rfl rfl rfl ?_
            refine ps_st (S' := (64, [(0, .ref m0), (1, .int (nI (by2 f p))), (2, .int (nI i)), (3, .int (nI j))], [.int ((nI (p1 + 2 * j)) + 2), .ref m0], M26)) rfl rfl rfl ?_
            rw [nI_add1 (p := p1 + 2 * j) (k := 2) (x := 2) rfl (by omega)]
            show pl _ _ _ (_, [(0, .ref m0), (1, .int (nI (by2 f p))), (2, .int (nI i)), (3, .int (nI j))], [.int (nI (p1 + 2 * j + 2)), .ref m0], M26) _
            refine pr_put (j := 50) rfl hR30 rfl (fun M37 I38 hR39 hi40 hI41 => ?_)
            have hF_42 := hF_34.mono (pIx hI41 (by decide)) (fun _ _ => rfl)
            have hEI43 := hEI35.put hI41 (by decide)
            show pl _ _ _ (67, [(0, .ref m0), (1, .int (nI (by2 f p))), (2, .int (nI i)), (3, .int (nI j))], [], M37) _
            refine ps_st (S' := (70, [(3, .int ((nI j) + 1)), (0, .ref m0), (1, .int (nI (by2 f p))), (2, .int (nI i))], [], M37)) rfl rfl rfl ?_
            rw [nI_add1 (p := j) (k := 1) (x := 1) rfl (by omega)]
            show pl _ _ _ (_, [(3, .int (nI (j + 1))), (0, .ref m0), (1, .int (nI (by2 f p))), (2, .int (nI i))], [], M37) _
            refine ps_st (S' := (40, [(0, .ref m0), (1, .int (nI (by2 f p))), (2, .int (nI i)), (3, .int (nI (j + 1)))], [], M37)) rfl rfl rfl ?_
            exact ih.2 (i) (p1) (j + 1) M37 I38 R29 hR39 hEI43 hER36 hi40 hF_42 (hi) (by omega) (by omega) (hs)
          · skip
            obtain ⟨I44, R45, q49_s, rfl, hR46, hI47, hX48, hi49, hi51⟩ := q27
            have hi52 := (hI47 50 (by decide)).trans hl50
            have hF_53 := hF1.mono (cIx hI47 (by decide)) (cRx hX48 (by decide))
            have hEI54 := hEI1.tr hI47 (by decide)
            have hER55 := hER1.tr hX48 (by decide)
            show pl _ _ _ (52, [(0, .ref m0), (1, .int (nI (by2 f p))), (2, .int (nI i)), (3, .int (nI j))], [.int 0], M26) _
            refine ps_if (S1 := (57, [(0, .ref m0), (1, .int (nI (by2 f p))), (2, .int (nI i)), (3, .int (nI j))], [], M26)) (S2 := (55, [(0, .ref m0), (1, .int (nI (by2 f p))), (2, .int (nI i)), (3, .int (nI j))], [], M26)) rfl rfl rfl (fun c_52 => ?_) (fun c_52 => ?_)
            · exact absurd (of_decide_eq_true c_52) (by decide)
            refine ps_st (S' := (56, [(0, .ref m0), (1, .int (nI (by2 f p))), (2, .int (nI i)), (3, .int (nI j))], [.int 0], M26)) rfl rfl rfl ?_
            exact ps_ret rfl rfl (Or.inr ⟨(1, p1 + 2 * j), I44, R45, by
                rw [← hs]
                exact s_mems_bad (by omega) (by omega) (by omega) (by omega), rfl, hR46, hEI54, hER55, hi49, hi51⟩)
  refine ps_st (S' := (1, [(0, .ref m0)], [.ref m0], M)) rfl rfl rfl ?_
  refine ps_st (S' := (4, [(0, .ref m0)], [.long 2, .ref m0], M)) rfl rfl rfl ?_
  refine pl_call (a := [.ref m0, .long 2]) (rest := []) rfl rfl rfl (rd_item (n := n) (f := f) (p := p) (k := 2) hR hi50 hF (by omega) (by decide)) (fun v56 M57 q58 => ?_)
  rcases q58 with q58 | q58
  · skip
    obtain ⟨I59, R60, q4_s, rfl, hR61, hI62, hX63⟩ := q58
    have hi64 := (hI62 50 (by decide)).trans hi50
    have hF_65 := hF.mono (cIx hI62 (by decide)) (cRx hX63 (by decide))
    have hEI66 := hEI.tr hI62 (by decide)
    have hER67 := hER.tr hX63 (by decide)
    show pl _ _ _ (7, [(0, .ref m0)], [.int 1], M57) _
    refine ps_if (S1 := (12, [(0, .ref m0)], [], M57)) (S2 := (10, [(0, .ref m0)], [], M57)) rfl rfl rfl (fun c_7 => ?_) (fun c_7 => ?_)
    rotate_left
    · exact absurd (by decide) (of_decide_eq_false c_7)
    refine ps_st (S' := (13, [(0, .ref m0)], [.ref m0], M57)) rfl rfl rfl ?_
    refine ps_st (S' := (14, [(0, .ref m0)], [.ref m0, .ref m0], M57)) rfl rfl rfl ?_
    refine pr_int (j := 50) (S' := (17, [(0, .ref m0)], [.int (nI p), .ref m0], M57)) rfl hR61 rfl hi64 rfl ?_
    refine pl_call (a := [.ref m0, .int (nI p)]) (rest := []) rfl rfl rfl (rd_u2 (n := n) (f := f) (p := p) hR61 hF_65 (by omega)) (fun v68 M69 q70 => ?_)
    obtain ⟨rfl, rfl⟩ := q70
    show pl _ _ _ (20, [(0, .ref m0)], [.int (nI (by2 f p))], M57) _
    have hu_17 := by2_lt f p
    refine ps_st (S' := (21, [(1, .int (nI (by2 f p))), (0, .ref m0)], [], M57)) rfl rfl rfl ?_
    refine ps_st (S' := (22, [(1, .int (nI (by2 f p))), (0, .ref m0)], [.ref m0], M57)) rfl rfl rfl ?_
    refine ps_st (S' := (23, [(1, .int (nI (by2 f p))), (0, .ref m0)], [.ref m0, .ref m0], M57)) rfl rfl rfl ?_
    refine pr_int (j := 50) (S' := (26, [(1, .int (nI (by2 f p))), (0, .ref m0)], [.int (nI p), .ref m0], M57)) rfl hR61 rfl hi64 rfl ?_
    refine ps_st (S' := (27, [(1, .int (nI (by2 f p))), (0, .ref m0)], [.int 2, .int (nI p), .ref m0], M57)) rfl rfl rfl ?_
    refine ps_st (S' := (28, [(1, .int (nI (by2 f p))), (0, .ref m0)], [.int ((nI p) + 2), .ref m0], M57)) rfl rfl rfl ?_
    rw [nI_add1 (p := p) (k := 2) (x := 2) rfl (by omega)]
    show pl _ _ _ (_, [(1, .int (nI (by2 f p))), (0, .ref m0)], [.int (nI (p + 2)), .ref m0], M57) _
    refine pr_put (j := 50) rfl hR61 rfl (fun M71 I72 hR73 hi74 hI75 => ?_)
    have hF_76 := hF_65.mono (pIx hI75 (by decide)) (fun _ _ => rfl)
    have hEI77 := hEI66.put hI75 (by decide)
    show pl _ _ _ (31, [(1, .int (nI (by2 f p))), (0, .ref m0)], [], M71) _
    refine ps_st (S' := (32, [(1, .int (nI (by2 f p))), (0, .ref m0)], [.int 0], M71)) rfl rfl rfl ?_
    refine ps_st (S' := (33, [(0, .ref m0), (1, .int (nI (by2 f p))), (2, .int 0)], [], M71)) rfl rfl rfl ?_
    exact (LL kf).1 (0) (p + 2) M71 I72 R60 hR73 hEI77 hER67 hi74 hF_76 (by omega) (by omega) (by
        unfold s_mbs
        rw [if_neg (by omega)]
        rfl)
  · skip
    obtain ⟨I78, R79, q4_s, rfl, hR80, hI81, hX82, hi83, hi84⟩ := q58
    have hi85 := (hI81 50 (by decide)).trans hi50
    have hF_86 := hF.mono (cIx hI81 (by decide)) (cRx hX82 (by decide))
    have hEI87 := hEI.tr hI81 (by decide)
    have hER88 := hER.tr hX82 (by decide)
    show pl _ _ _ (7, [(0, .ref m0)], [.int 0], M57) _
    refine ps_if (S1 := (12, [(0, .ref m0)], [], M57)) (S2 := (10, [(0, .ref m0)], [], M57)) rfl rfl rfl (fun c_7 => ?_) (fun c_7 => ?_)
    · exact absurd (of_decide_eq_true c_7) (by decide)
    refine ps_st (S' := (11, [(0, .ref m0)], [.int 0], M57)) rfl rfl rfl ?_
    exact ps_ret rfl rfl (Or.inr ⟨(1, p), I78, R79, by
        unfold s_mbs
        rw [if_pos (by omega)], rfl, hR80, hEI87, hER88, hi83, hi84⟩)
end
section
/-! the reference's table of texts (laid by wip/p4/e2.py) -/
/-! the reference's table of texts (my own text) -/
section SYA
/-- the hash of the first k characters -/
def hp (c : Nat → Nat) : Nat → Int32
  | 0 => 7
  | k + 1 => 31 * hp c k + nI (c k)
def hsI (x : Int32) : Int32 := (x ^^^ ((x.toUInt32 >>> ((12 : Int32).toUInt32 &&& Int32.toUInt32 31)).toInt32)) &&& 4095
def hsh (l : List Nat) : Nat := (hsI (hp (fun i => l.getD i 0) l.length)).toInt.toNat
theorem hsh_eq {l : List Nat} {k : Nat} (h : k = l.length) : (hp (fun i => l.getD i 0) k ^^^ (((hp (fun i => l.getD i 0) k).toUInt32 >>> ((12 : Int32).toUInt32 &&& Int32.toUInt32 31)).toInt32)) &&& 4095 = nI (hsh l) := by
  subst h
  show hsI _ = _
  unfold hsh
  obtain ⟨j, hj, e⟩ := pk_andE ((hp (fun i => l.getD i 0) l.length ^^^ (((hp (fun i => l.getD i 0) l.length).toUInt32 >>> ((12 : Int32).toUInt32 &&& Int32.toUInt32 31)).toInt32))) (m := 4095) 12 (by decide)
  have e2 : hsI (hp (fun i => l.getD i 0) l.length) = Int32.ofNat j := e
  rw [e2, Int32.toInt_ofNat_of_lt (by omega)]
  rfl
theorem hsh_lt (l : List Nat) : hsh l < 4096 := by
  unfold hsh
  obtain ⟨j, hj, e⟩ := pk_andE ((hp (fun i => l.getD i 0) l.length ^^^ (((hp (fun i => l.getD i 0) l.length).toUInt32 >>> ((12 : Int32).toUInt32 &&& Int32.toUInt32 31)).toInt32))) (m := 4095) 12 (by decide)
  have e2 : hsI (hp (fun i => l.getD i 0) l.length) = Int32.ofNat j := e
  rw [e2, Int32.toInt_ofNat_of_lt (by omega)]
  show (j : Int).toNat < 4096
  omega
/-- the last text ahead of number m with this hash -/
def gb (tx : List (List Nat)) : Nat → Nat → Option Nat
  | 0, _ => none
  | m + 1, h => if hsh (tx.getD m []) = h then some m else gb tx m h
def gI (o : Option Nat) : Int32 := match o with
  | none => -1
  | some t => nI t
theorem gb_some {tx : List (List Nat)} {h : Nat} : ∀ {m t : Nat}, gb tx m h = some t → t < m ∧ hsh (tx.getD t []) = h ∧ ∀ s, t < s → s < m → ¬ hsh (tx.getD s []) = h := by
  intro m
  induction m with
  | zero => intro t h9; cases h9
  | succ m ih =>
    intro t h9
    unfold gb at h9
    split at h9
    · rename_i h1
      cases h9
      exact ⟨by omega, h1, fun s a b => by omega⟩
    · rename_i h1
      obtain ⟨a, b, c⟩ := ih h9
      refine ⟨by omega, b, fun s a' b' => ?_⟩
      by_cases e : s = m
      · rw [e]; exact h1
      · exact c s a' (by omega)
theorem gb_none {tx : List (List Nat)} {h : Nat} : ∀ {m : Nat}, gb tx m h = none → ∀ s, s < m → ¬ hsh (tx.getD s []) = h := by
  intro m
  induction m with
  | zero => intro _ s hs; omega
  | succ m ih =>
    intro h9 s hs
    unfold gb at h9
    split at h9
    · cases h9
    · rename_i h1
      by_cases e : s = m
      · rw [e]; exact h1
      · exact ih h9 s (by omega)
theorem gI_some {o : Option Nat} {c : Int32} (hc : c = gI o) (h : ¬ c < 0) : ∃ t, c = nI t ∧ o = some t := by
  cases o with
  | none => rw [hc] at h; exact absurd (by decide) h
  | some t => exact ⟨t, hc, rfl⟩
theorem gI_none {o : Option Nat} {c : Int32} (hc : c = gI o) (hb : ∀ t, o = some t → t < 1073741824) (h : c < 0) : o = none := by
  cases o with
  | none => rfl
  | some t => rw [hc] at h; exact absurd h (nI_n0 (hb t rfl))
theorem gd_ap {tx : List (List Nat)} {l : List Nat} {s : Nat} (h : s < tx.length) : (tx ++ [l]).getD s [] = tx.getD s [] := by
  rw [List.getD_eq_getElem?_getD, List.getD_eq_getElem?_getD, List.getElem?_append_left h]
theorem gd_at {tx : List (List Nat)} {l : List Nat} : (tx ++ [l]).getD tx.length [] = l := by
  rw [List.getD_eq_getElem?_getD, List.getElem?_append_right (Nat.le_refl _), Nat.sub_self]
  rfl
theorem gb_ap {tx : List (List Nat)} {l : List Nat} {h : Nat} : ∀ {m : Nat}, m ≤ tx.length → gb (tx ++ [l]) m h = gb tx m h := by
  intro m
  induction m with
  | zero => intro _; rfl
  | succ m ih =>
    intro hm
    unfold gb
    rw [gd_ap (by omega), ih (by omega)]
/-- two texts with the same characters -/
theorem ls_ext {a b : List Nat} (h : a.length = b.length) (hc : ∀ i, i < a.length → a.getD i 0 = b.getD i 0) : a = b := by
  apply List.ext_getElem h
  intro i h1 h2
  have := hc i h1
  rw [List.getD_eq_getElem?_getD, List.getD_eq_getElem?_getD, List.getElem?_eq_getElem h1, List.getElem?_eq_getElem h2] at this
  exact this
end SYA
section SYB
variable {I I' : rI} {R R' : rR}
/-- the texts tx in the table: text number s stands at A s -/
def SYT (tx : List (List Nat)) (cN : Nat) (A : Nat → Nat) (I : rI) (R : rR) : Prop :=
  (I 8 = some (nI tx.length) ∧ I 3 = some (nI cN) ∧ tx.length ≤ 24000 ∧ cN ≤ 66000) ∧
  (∀ s, s < tx.length → R 4 s = some (nI (A s)) ∧ R 5 s = some (nI (tx.getD s []).length) ∧ A s + (tx.getD s []).length ≤ cN ∧ ∀ i, i < (tx.getD s []).length → R 1 (A s + i) = some (nI ((tx.getD s []).getD i 0)) ∧ (tx.getD s []).getD i 0 < 65536) ∧
  (∀ s, s < tx.length → R 6 s = some (gI (gb tx s (hsh (tx.getD s []))))) ∧ (∀ h, h < 4096 → R 7 h = some (gI (gb tx tx.length h))) ∧
  (∀ s t, s < tx.length → t < tx.length → tx.getD s [] = tx.getD t [] → s = t)
theorem SYT.mono {tx : List (List Nat)} {cN : Nat} {A : Nat → Nat} (h : SYT tx cN A I R) (hI : ∀ k, k ∈ [3, 8] → I' k = I k) (hR : ∀ k, k ∈ [1, 4, 5, 6, 7] → R' k = R k) : SYT tx cN A I' R' := by
  obtain ⟨⟨a1, a2, a3⟩, b, c, d, e⟩ := h
  refine ⟨⟨(hI 8 (by decide)).trans a1, (hI 3 (by decide)).trans a2, a3⟩, fun s hs => ?_, fun s hs => ?_, fun s hs => ?_, e⟩
  · rw [hR 4 (by decide), hR 5 (by decide), hR 1 (by decide)]
    exact b s hs
  · rw [hR 6 (by decide)]
    exact c s hs
  · rw [hR 7 (by decide)]
    exact d s hs
/-- behind the characters that are used anything may be written -/
theorem SYT.wr {tx : List (List Nat)} {cN j : Nat} {A : Nat → Nat} {x : Int32} (h : SYT tx cN A I R) (hR : R' = rset R 1 j x) (hj : cN ≤ j) : SYT tx cN A I R' := by
  obtain ⟨a, b, c, d, e⟩ := h
  subst hR
  refine ⟨a, fun s hs => ?_, fun s hs => ?_, fun s hs => ?_, e⟩
  · obtain ⟨b1, b2, b3, b4⟩ := b s hs
    rw [rset_ne (by decide), rset_ne (by decide)]
    refine ⟨b1, b2, b3, fun i hi => ?_⟩
    rw [rset_el (by omega)]
    exact b4 i hi
  · rw [rset_ne (by decide)]
    exact c s hs
  · rw [rset_ne (by decide)]
    exact d s hs
/-- the text that is to be looked up -/
def CUW (l : List Nat) (k : Nat) (I : rI) (R : rR) : Prop := ∀ i, i < k → R 2 i = some (nI (l.getD i 0)) ∧ l.getD i 0 < 65536
theorem CUW.mono {l : List Nat} {k : Nat} (h : CUW l k I R) (hI : ∀ k, k ∈ ([] : List Nat) → I' k = I k) (hR : ∀ k, k ∈ [2] → R' k = R k) : CUW l k I' R' := fun i hi => by
  rw [hR 2 (by decide)]
  exact h i hi
theorem CUW.nil {l : List Nat} : CUW l 0 I R := fun i hi => by omega
theorem CUW.snoc {l : List Nat} {k x : Nat} (h : CUW l k I R) (hR : R' = rset R 2 k (vp_nar .char (nI x))) (hx : l.getD k 0 = x) (hc : x < 65536) : CUW l (k + 1) I R' := fun i hi => by
  subst hR
  by_cases e : i = k
  · subst e
    rw [rset_at, nar_char hc, hx]
    exact ⟨rfl, hc⟩
  · rw [rset_el e]
    exact h i (by omega)
/-- what was copied behind the characters that are used -/
def CPY (l : List Nat) (cN k : Nat) (I : rI) (R : rR) : Prop := ∀ i, i < k → R 1 (cN + i) = some (nI (l.getD i 0)) ∧ l.getD i 0 < 65536
theorem CPY.mono {l : List Nat} {cN k : Nat} (h : CPY l cN k I R) (hI : ∀ k, k ∈ ([] : List Nat) → I' k = I k) (hR : ∀ k, k ∈ [1] → R' k = R k) : CPY l cN k I' R' := fun i hi => by
  rw [hR 1 (by decide)]
  exact h i hi
theorem CPY.nil {l : List Nat} {cN : Nat} : CPY l cN 0 I R := fun i hi => by omega
theorem CPY.snoc {l : List Nat} {cN k : Nat} (h : CPY l cN k I R) (hR : R' = rset R 1 (cN + k) (vp_nar .char (nI (l.getD k 0)))) (hc : l.getD k 0 < 65536) : CPY l cN (k + 1) I R' := fun i hi => by
  subst hR
  by_cases e : i = k
  · subst e
    rw [rset_at, nar_char hc]
    exact ⟨rfl, hc⟩
  · rw [rset_el (by omega)]
    exact h i (by omega)
/-- a text more -/
theorem SYT.add {tx : List (List Nat)} {cN : Nat} {A : Nat → Nat} {l : List Nat} {Ra R1 R2 R3 R4 : rR} (h : SYT tx cN A I Ra) (hc : CPY l cN l.length I Ra) (hno : ∀ s, s < tx.length → ¬ tx.getD s [] = l) (h1 : R1 = rset Ra 4 tx.length (nI cN)) (h2 : R2 = rset R1 5 tx.length (nI l.length)) (h3 : R3 = rset R2 6 tx.length (gI (gb tx tx.length (hsh l)))) (h4 : R4 = rset R3 7 (hsh l) (nI tx.length))
    (i8 : I' 8 = some (nI (tx.length + 1))) (i3 : I' 3 = some (nI (cN + l.length))) (hS : tx.length < 24000) (hN : cN + l.length ≤ 66000) : SYT (tx ++ [l]) (cN + l.length) (fun s => if s = tx.length then cN else A s) I' R4 := by
  obtain ⟨-, b, c, d, e⟩ := h
  have r1 : R4 1 = Ra 1 := by rw [h4, rset_ne (by decide), h3, rset_ne (by decide), h2, rset_ne (by decide), h1, rset_ne (by decide)]
  have r4 : R4 4 = R1 4 := by rw [h4, rset_ne (by decide), h3, rset_ne (by decide), h2, rset_ne (by decide)]
  have r5 : R4 5 = R2 5 := by rw [h4, rset_ne (by decide), h3, rset_ne (by decide)]
  have r6 : R4 6 = R3 6 := by rw [h4, rset_ne (by decide)]
  have r60 : R2 6 = Ra 6 := by rw [h2, rset_ne (by decide), h1, rset_ne (by decide)]
  have r50 : R1 5 = Ra 5 := by rw [h1, rset_ne (by decide)]
  have r70 : R3 7 = Ra 7 := by rw [h3, rset_ne (by decide), h2, rset_ne (by decide), h1, rset_ne (by decide)]
  have hl : (tx ++ [l]).length = tx.length + 1 := by simp
  refine ⟨⟨by rw [hl]; exact i8, i3, by omega, hN⟩, fun s hs => ?_, fun s hs => ?_, fun s hs => ?_, fun s t hs ht e9 => ?_⟩
  · rw [r1, r4, r5]
    dsimp only
    by_cases e1 : s = tx.length
    · subst e1
      rw [gd_at, if_pos rfl, h1, rset_at, h2, rset_at]
      exact ⟨rfl, rfl, Nat.le_refl _, hc⟩
    · obtain ⟨b1, b2, b3, b4⟩ := b s (by omega)
      rw [gd_ap (by omega), if_neg e1, h1, rset_el e1, h2, rset_el e1, r50]
      exact ⟨b1, b2, by omega, b4⟩
  · rw [r6]
    by_cases e1 : s = tx.length
    · subst e1
      rw [gd_at, gb_ap (Nat.le_refl _), h3, rset_at]
    · rw [gd_ap (by omega), gb_ap (by omega), h3, rset_el e1, r60]
      exact c s (by omega)
  · rw [hl]
    unfold gb
    rw [gd_at, gb_ap (Nat.le_refl _)]
    by_cases e1 : hsh l = s
    · subst e1
      rw [if_pos rfl, h4, rset_at]
      rfl
    · rw [if_neg e1, h4, rset_el (Ne.symm e1), r70]
      exact d s hs
  · by_cases e1 : s = tx.length
    · by_cases e2 : t = tx.length
      · omega
      · subst e1
        rw [gd_at, gd_ap (by omega)] at e9
        exact absurd e9.symm (hno t (by omega))
    · by_cases e2 : t = tx.length
      · subst e2
        rw [gd_at, gd_ap (by omega)] at e9
        exact absurd e9 (hno s (by omega))
      · rw [gd_ap (by omega), gd_ap (by omega)] at e9
        exact e s t (by omega) (by omega) e9
end SYB

theorem lt_len : ∀ lk, rlk lk → (xe_lt lk).2.2.2.length < 1000 := by
  intro lk h
  have : ∀ lk, lk < 30 → (xe_lt lk).2.2.2.length < 1000 := by decide +kernel
  exact this lk h.2
theorem ltx_len (lk : Nat) : (ltx lk).length = (xe_lt lk).2.2.2.length := List.length_map _
theorem ltx_ch7 : ∀ lk, rlk lk → ∀ k, (ltx lk).getD k 0 < 65536 := by
  intro lk h k
  have h1 : ∀ lk, lk < 30 → ∀ c ∈ ltx lk, c < 65536 := by decide +kernel
  by_cases hi : k < (ltx lk).length
  · rw [List.getD_eq_getElem?_getD, List.getElem?_eq_getElem hi, Option.getD_some]
    exact h1 lk h.2 _ (List.getElem_mem hi)
  · rw [List.getD_eq_getElem?_getD, List.getElem?_eq_none (by omega)]
    decide
set_option maxHeartbeats 1000000 in
theorem rd_symbol {g : xe_G} {m0 : Nat} {q : Nat → Nat} {z : Nat × Nat} {I : rI} {R : rR} {M : mi_H} {tx : List (List Nat)} {cN : Nat} {A : Nat → Nat} {l : List Nat} (hR : RS g m0 q z I R M)  (hY : SYT tx cN A I R) (hU : CUW l l.length I R) (hl : l.length ≤ 66000) : pt (mT g) 245 [.ref m0, .int (nI l.length)] M (fun v M' => (∃ (tx2 : List (List Nat)) (cN2 : Nat) (A2 : Nat → Nat) (x : Nat) (I' : rI) (R' : rR), (x < tx2.length ∧ tx2.getD x [] = l) ∧ (tx.length ≤ tx2.length ∧ ∀ s, s < tx.length → tx2.getD s [] = tx.getD s []) ∧ v = some (.int (nI x)) ∧ RS g m0 q z I' R' M' ∧ eqI [3, 8] I I' ∧ eqR [1, 4, 5, 6, 7] R R' ∧ SYT tx2 cN2 A2 I' R')) := by
  refine pt_in (b := mb_245 g) rfl (fun kf => ?_)
  show pl (mT g) kf (mb_245 g).2 (0, [(0, .ref m0), (1, .int (nI l.length))], [], M) _
  have hEI : eqI [3, 8] I I := eqI.rf
  have hER : eqR [1, 4, 5, 6, 7] R R := eqR.rf
  have hll := hY.1.2.2
  have LL : ∀ (kf : Nat), (∀ (k : Nat) (M1 : mi_H) (I1 : rI) (R1 : rR), (RS g m0 q z I1 R1 M1) → (eqI [3, 8] I I1) → (eqR [1, 4, 5, 6, 7] R R1) → (SYT tx cN A I1 R1) → (CUW l l.length I1 R1) → (k ≤ l.length) →  pl (mT g) kf (mb_245 g).2 (5, [(0, .ref m0), (1, .int (nI l.length)), (2, .int (hp (fun i => l.getD i 0) k)), (3, .int (nI k))], [], M1) (fun v M' => (∃ (tx2 : List (List Nat)) (cN2 : Nat) (A2 : Nat → Nat) (x : Nat) (I' : rI) (R' : rR), (x < tx2.length ∧ tx2.getD x [] = l) ∧ (tx.length ≤ tx2.length ∧ ∀ s, s < tx.length → tx2.getD s [] = tx.getD s []) ∧ v = some (.int (nI x)) ∧ RS g m0 q z I' R' M' ∧ eqI [3, 8] I I' ∧ eqR [1, 4, 5, 6, 7] R R' ∧ SYT tx2 cN2 A2 I' R'))) ∧ (∀ (m : Nat) (c : Int32) (M1 : mi_H) (I1 : rI) (R1 : rR), (RS g m0 q z I1 R1 M1) → (eqI [3, 8] I I1) → (eqR [1, 4, 5, 6, 7] R R1) → (SYT tx cN A I1 R1) → (CUW l l.length I1 R1) → (m ≤ tx.length) → (c = gI (gb tx m (hsh l))) → (∀ s, m ≤ s → s < tx.length → ¬ tx.getD s [] = l) →  pl (mT g) kf (mb_245 g).2 (46, [(0, .ref m0), (1, .int (nI l.length)), (2, .int (nI (hsh l))), (3, .int c)], [], M1) (fun v M' => (∃ (tx2 : List (List Nat)) (cN2 : Nat) (A2 : Nat → Nat) (x : Nat) (I' : rI) (R' : rR), (x < tx2.length ∧ tx2.getD x [] = l) ∧ (tx.length ≤ tx2.length ∧ ∀ s, s < tx.length → tx2.getD s [] = tx.getD s []) ∧ v = some (.int (nI x)) ∧ RS g m0 q z I' R' M' ∧ eqI [3, 8] I I' ∧ eqR [1, 4, 5, 6, 7] R R' ∧ SYT tx2 cN2 A2 I' R'))) ∧ (∀ (m t k b : Nat) (M1 : mi_H) (I1 : rI) (R1 : rR), (RS g m0 q z I1 R1 M1) → (eqI [3, 8] I I1) → (eqR [1, 4, 5, 6, 7] R R1) → (SYT tx cN A I1 R1) → (CUW l l.length I1 R1) → (m ≤ tx.length) → (t < m) → (hsh (tx.getD t []) = hsh l) → (∀ s, t < s → s < m → ¬ hsh (tx.getD s []) = hsh l) → (∀ s, m ≤ s → s < tx.length → ¬ tx.getD s [] = l) → (b < 2) → (k ≤ l.length) → (¬ b = 0 → (tx.getD t []).length = l.length ∧ ∀ i, i < k → (tx.getD t []).getD i 0 = l.getD i 0) → (b = 0 → ¬ tx.getD t [] = l) →  pl (mT g) kf (mb_245 g).2 (70, [(0, .ref m0), (1, .int (nI l.length)), (2, .int (nI (hsh l))), (3, .int (nI t)), (4, .int (nI b)), (5, .int (nI k))], [], M1) (fun v M' => (∃ (tx2 : List (List Nat)) (cN2 : Nat) (A2 : Nat → Nat) (x : Nat) (I' : rI) (R' : rR), (x < tx2.length ∧ tx2.getD x [] = l) ∧ (tx.length ≤ tx2.length ∧ ∀ s, s < tx.length → tx2.getD s [] = tx.getD s []) ∧ v = some (.int (nI x)) ∧ RS g m0 q z I' R' M' ∧ eqI [3, 8] I I' ∧ eqR [1, 4, 5, 6, 7] R R' ∧ SYT tx2 cN2 A2 I' R'))) ∧ (∀ (k : Nat) (M1 : mi_H) (I1 : rI) (R1 : rR), (RS g m0 q z I1 R1 M1) → (eqI [3, 8] I I1) → (eqR [1, 4, 5, 6, 7] R R1) → (SYT tx cN A I1 R1) → (CUW l l.length I1 R1) → (CPY l cN k I1 R1) → (k ≤ l.length ∧ cN + k ≤ 66000) → (∀ s, s < tx.length → ¬ tx.getD s [] = l) →  pl (mT g) kf (mb_245 g).2 (137, [(0, .ref m0), (1, .int (nI l.length)), (2, .int (nI (hsh l))), (3, .int (nI k))], [], M1) (fun v M' => (∃ (tx2 : List (List Nat)) (cN2 : Nat) (A2 : Nat → Nat) (x : Nat) (I' : rI) (R' : rR), (x < tx2.length ∧ tx2.getD x [] = l) ∧ (tx.length ≤ tx2.length ∧ ∀ s, s < tx.length → tx2.getD s [] = tx.getD s []) ∧ v = some (.int (nI x)) ∧ RS g m0 q z I' R' M' ∧ eqI [3, 8] I I' ∧ eqR [1, 4, 5, 6, 7] R R' ∧ SYT tx2 cN2 A2 I' R'))) := by
    intro kf
    induction kf with
    | zero => exact ⟨by intros; exact pl_0, by intros; exact pl_0, by intros; exact pl_0, by intros; exact pl_0⟩
    | succ kf ih =>
      refine ⟨?_, ?_, ?_, ?_⟩
      · skip
        intro k M1 I1 R1 hR1 hEI1 hER1 hY1 hU1 hk
        refine ps_st1 (S' := (6, [(0, .ref m0), (1, .int (nI l.length)), (2, .int (hp (fun i => l.getD i 0) k)), (3, .int (nI k))], [.int (nI k)], M1)) rfl rfl rfl ?_
        refine ps_st (S' := (7, [(0, .ref m0), (1, .int (nI l.length)), (2, .int (hp (fun i => l.getD i 0) k)), (3, .int (nI k))], [.int (nI l.length), .int (nI k)], M1)) rfl rfl rfl ?_
        refine ps_if2 (S1 := (28, [(0, .ref m0), (1, .int (nI l.length)), (2, .int (hp (fun i => l.getD i 0) k)), (3, .int (nI k))], [], M1)) (S2 := (10, [(0, .ref m0), (1, .int (nI l.length)), (2, .int (hp (fun i => l.getD i 0) k)), (3, .int (nI k))], [], M1)) rfl rfl rfl (fun c_7 => ?_) (fun c_7 => ?_)
        · have c_7 : (nI l.length) ≤ (nI k) := of_decide_eq_true c_7
          have n_7 : l.length ≤ k := (le_nI (p := l.length) (n := k) (by omega) (by omega)).mp c_7
          refine ps_st (S' := (29, [(0, .ref m0), (1, .int (nI l.length)), (2, .int (hp (fun i => l.getD i 0) k)), (3, .int (nI k))], [.int (hp (fun i => l.getD i 0) k)], M1)) rfl rfl rfl ?_
          refine ps_st (S' := (30, [(0, .ref m0), (1, .int (nI l.length)), (2, .int (hp (fun i => l.getD i 0) k)), (3, .int (nI k))], [.int (hp (fun i => l.getD i 0) k), .int (hp (fun i => l.getD i 0) k)], M1)) rfl rfl rfl ?_
          refine ps_st (S' := (32, [(0, .ref m0), (1, .int (nI l.length)), (2, .int (hp (fun i => l.getD i 0) k)), (3, .int (nI k))], [.int 12, .int (hp (fun i => l.getD i 0) k), .int (hp (fun i => l.getD i 0) k)], M1)) rfl rfl rfl ?_
          refine ps_st (S' := (33, [(0, .ref m0), (1, .int (nI l.length)), (2, .int (hp (fun i => l.getD i 0) k)), (3, .int (nI k))], [.int (((hp (fun i => l.getD i 0) k).toUInt32 >>> ((12 : Int32).toUInt32 &&& Int32.toUInt32 31)).toInt32), .int (hp (fun i => l.getD i 0) k)], M1)) rfl rfl rfl ?_
          refine ps_st (S' := (34, [(0, .ref m0), (1, .int (nI l.length)), (2, .int (hp (fun i => l.getD i 0) k)), (3, .int (nI k))], [.int ((hp (fun i => l.getD i 0) k) ^^^ (((hp (fun i => l.getD i 0) k).toUInt32 >>> ((12 : Int32).toUInt32 &&& Int32.toUInt32 31)).toInt32))], M1)) rfl rfl rfl ?_
          refine ps_st (S' := (37, [(0, .ref m0), (1, .int (nI l.length)), (2, .int (hp (fun i => l.getD i 0) k)), (3, .int (nI k))], [.int 4095, .int ((hp (fun i => l.getD i 0) k) ^^^ (((hp (fun i => l.getD i 0) k).toUInt32 >>> ((12 : Int32).toUInt32 &&& Int32.toUInt32 31)).toInt32))], M1)) rfl rfl rfl ?_
          refine ps_st (S' := (38, [(0, .ref m0), (1, .int (nI l.length)), (2, .int (hp (fun i => l.getD i 0) k)), (3, .int (nI k))], [.int (((hp (fun i => l.getD i 0) k) ^^^ (((hp (fun i => l.getD i 0) k).toUInt32 >>> ((12 : Int32).toUInt32 &&& Int32.toUInt32 31)).toInt32)) &&& 4095)], M1)) rfl rfl rfl ?_
          rw [show (((hp (fun i => l.getD i 0) k) ^^^ (((hp (fun i => l.getD i 0) k).toUInt32 >>> ((12 : Int32).toUInt32 &&& Int32.toUInt32 31)).toInt32)) &&& 4095) = nI (hsh l) from hsh_eq (by omega)]
          have hhl := hsh_lt l
          refine ps_st (S' := (39, [(2, .int (nI (hsh l))), (0, .ref m0), (1, .int (nI l.length)), (3, .int (nI k))], [], M1)) rfl rfl rfl ?_
          refine ps_st (S' := (40, [(2, .int (nI (hsh l))), (0, .ref m0), (1, .int (nI l.length)), (3, .int (nI k))], [.ref m0], M1)) rfl rfl rfl ?_
          refine pr_ref (j := 7) (S' := (43, [(2, .int (nI (hsh l))), (0, .ref m0), (1, .int (nI l.length)), (3, .int (nI k))], [.ref (q 7)], M1)) rfl hR1 rfl rfl ?_
          refine ps_st (S' := (44, [(2, .int (nI (hsh l))), (0, .ref m0), (1, .int (nI l.length)), (3, .int (nI k))], [.int (nI (hsh l)), .ref (q 7)], M1)) rfl rfl rfl ?_
          refine pr_ld (a := 7) (j := hsh l) (y := (gI (gb tx tx.length (hsh l)))) (S' := (45, [(2, .int (nI (hsh l))), (0, .ref m0), (1, .int (nI l.length)), (3, .int (nI k))], [.int (gI (gb tx tx.length (hsh l)))], M1)) rfl hR1 rfl (by omega) (fun _ => hY1.2.2.2.1 (hsh l) (by omega)) rfl (fun i1_44 => ?_)
          refine ps_st (S' := (46, [(0, .ref m0), (1, .int (nI l.length)), (2, .int (nI (hsh l))), (3, .int (gI (gb tx tx.length (hsh l))))], [], M1)) rfl rfl rfl ?_
          exact ih.2.1 (tx.length) ((gI (gb tx tx.length (hsh l)))) M1 I1 R1 hR1 hEI1 hER1 hY1 hU1 (Nat.le_refl _) (rfl) (fun s h1 h2 => by omega)
        · have c_7 : ¬ ((nI l.length) ≤ (nI k)) := of_decide_eq_false c_7
          have n_7 : ¬ (l.length ≤ k) := fun h9 => c_7 ((le_nI (p := l.length) (n := k) (by omega) (by omega)).mpr h9)
          refine ps_st (S' := (12, [(0, .ref m0), (1, .int (nI l.length)), (2, .int (hp (fun i => l.getD i 0) k)), (3, .int (nI k))], [.int 31], M1)) rfl rfl rfl ?_
          refine ps_st (S' := (13, [(0, .ref m0), (1, .int (nI l.length)), (2, .int (hp (fun i => l.getD i 0) k)), (3, .int (nI k))], [.int (hp (fun i => l.getD i 0) k), .int 31], M1)) rfl rfl rfl ?_
          refine ps_st (S' := (14, [(0, .ref m0), (1, .int (nI l.length)), (2, .int (hp (fun i => l.getD i 0) k)), (3, .int (nI k))], [.int (31 * (hp (fun i => l.getD i 0) k))], M1)) rfl rfl rfl ?_
          refine ps_st (S' := (15, [(0, .ref m0), (1, .int (nI l.length)), (2, .int (hp (fun i => l.getD i 0) k)), (3, .int (nI k))], [.ref m0, .int (31 * (hp (fun i => l.getD i 0) k))], M1)) rfl rfl rfl ?_
          refine pr_ref (j := 2) (S' := (18, [(0, .ref m0), (1, .int (nI l.length)), (2, .int (hp (fun i => l.getD i 0) k)), (3, .int (nI k))], [.ref (q 2), .int (31 * (hp (fun i => l.getD i 0) k))], M1)) rfl hR1 rfl rfl ?_
          refine ps_st (S' := (19, [(0, .ref m0), (1, .int (nI l.length)), (2, .int (hp (fun i => l.getD i 0) k)), (3, .int (nI k))], [.int (nI k), .ref (q 2), .int (31 * (hp (fun i => l.getD i 0) k))], M1)) rfl rfl rfl ?_
          have hcu_19 := (hU1 k (by omega)).2
          refine pr_ld (a := 2) (j := k) (y := (nI (l.getD k 0))) (S' := (20, [(0, .ref m0), (1, .int (nI l.length)), (2, .int (hp (fun i => l.getD i 0) k)), (3, .int (nI k))], [.int (nI (l.getD k 0)), .int (31 * (hp (fun i => l.getD i 0) k))], M1)) rfl hR1 rfl (by omega) (fun _ => (hU1 k (by omega)).1) rfl (fun i1_19 => ?_)
          refine ps_st (S' := (21, [(0, .ref m0), (1, .int (nI l.length)), (2, .int (hp (fun i => l.getD i 0) k)), (3, .int (nI k))], [.int ((31 * (hp (fun i => l.getD i 0) k)) + (nI (l.getD k 0)))], M1)) rfl rfl rfl ?_
          refine ps_st (S' := (22, [(2, .int ((31 * (hp (fun i => l.getD i 0) k)) + (nI (l.getD k 0)))), (0, .ref m0), (1, .int (nI l.length)), (3, .int (nI k))], [], M1)) rfl rfl rfl ?_
          refine ps_st (S' := (25, [(3, .int ((nI k) + 1)), (2, .int ((31 * (hp (fun i => l.getD i 0) k)) + (nI (l.getD k 0)))), (0, .ref m0), (1, .int (nI l.length))], [], M1)) rfl rfl rfl ?_
          rw [nI_add1 (p := k) (k := 1) (x := 1) rfl (by omega)]
          show pl _ _ _ (_, [(3, .int (nI (k + 1))), (2, .int ((31 * (hp (fun i => l.getD i 0) k)) + (nI (l.getD k 0)))), (0, .ref m0), (1, .int (nI l.length))], [], M1) _
          refine ps_st (S' := (5, [(0, .ref m0), (1, .int (nI l.length)), (2, .int ((31 * (hp (fun i => l.getD i 0) k)) + (nI (l.getD k 0)))), (3, .int (nI (k + 1)))], [], M1)) rfl rfl rfl ?_
          exact ih.1 (k + 1) M1 I1 R1 hR1 hEI1 hER1 hY1 hU1 (by omega)
      · skip
        intro m c M1 I1 R1 hR1 hEI1 hER1 hY1 hU1 hm hc hno
        have hhl := hsh_lt l
        refine ps_st1 (S' := (47, [(0, .ref m0), (1, .int (nI l.length)), (2, .int (nI (hsh l))), (3, .int c)], [.int c], M1)) rfl rfl rfl ?_
        refine ps_if (S1 := (135, [(0, .ref m0), (1, .int (nI l.length)), (2, .int (nI (hsh l))), (3, .int c)], [], M1)) (S2 := (50, [(0, .ref m0), (1, .int (nI l.length)), (2, .int (nI (hsh l))), (3, .int c)], [], M1)) rfl rfl rfl (fun c_47 => ?_) (fun c_47 => ?_)
        · have c_47 : c < 0 := of_decide_eq_true c_47
          refine ps_st (S' := (136, [(0, .ref m0), (1, .int (nI l.length)), (2, .int (nI (hsh l))), (3, .int c)], [.int 0], M1)) rfl rfl rfl ?_
          refine ps_st (S' := (137, [(0, .ref m0), (1, .int (nI l.length)), (2, .int (nI (hsh l))), (3, .int 0)], [], M1)) rfl rfl rfl ?_
          exact ih.2.2.2 (0) M1 I1 R1 hR1 hEI1 hER1 hY1 hU1 CPY.nil (by omega) (by
              have hn9 := gI_none hc (fun t ht => by have := gb_some ht; omega) (by assumption)
              intro s hs h3
              by_cases e1 : m ≤ s
              · exact hno s e1 hs h3
              · exact gb_none hn9 s (by omega) (by rw [h3]))
        · have c_47 : ¬ (c < 0) := of_decide_eq_false c_47
          obtain ⟨t, ec, hg⟩ := gI_some hc (by assumption)
          subst ec
          obtain ⟨hg1, hg2, hg3⟩ := gb_some hg
          have hll := hY1.1.2.2
          refine ps_st (S' := (51, [(0, .ref m0), (1, .int (nI l.length)), (2, .int (nI (hsh l))), (3, .int (nI t))], [.ref m0], M1)) rfl rfl rfl ?_
          refine pr_ref (j := 5) (S' := (54, [(0, .ref m0), (1, .int (nI l.length)), (2, .int (nI (hsh l))), (3, .int (nI t))], [.ref (q 5)], M1)) rfl hR1 rfl rfl ?_
          refine ps_st (S' := (55, [(0, .ref m0), (1, .int (nI l.length)), (2, .int (nI (hsh l))), (3, .int (nI t))], [.int (nI t), .ref (q 5)], M1)) rfl rfl rfl ?_
          have hA_55 := (hY1.2.1 t (by omega)).2.2.1
          refine pr_ld (a := 5) (j := t) (y := (nI (tx.getD t []).length)) (S' := (56, [(0, .ref m0), (1, .int (nI l.length)), (2, .int (nI (hsh l))), (3, .int (nI t))], [.int (nI (tx.getD t []).length)], M1)) rfl hR1 rfl (by omega) (fun _ => (hY1.2.1 t (by omega)).2.1) rfl (fun i1_55 => ?_)
          refine ps_st (S' := (57, [(0, .ref m0), (1, .int (nI l.length)), (2, .int (nI (hsh l))), (3, .int (nI t))], [.int (nI l.length), .int (nI (tx.getD t []).length)], M1)) rfl rfl rfl ?_
          refine ps_if2 (S1 := (64, [(0, .ref m0), (1, .int (nI l.length)), (2, .int (nI (hsh l))), (3, .int (nI t))], [], M1)) (S2 := (60, [(0, .ref m0), (1, .int (nI l.length)), (2, .int (nI (hsh l))), (3, .int (nI t))], [], M1)) rfl rfl rfl (fun c_57 => ?_) (fun c_57 => ?_)
          · have c_57 : ¬ (nI (tx.getD t []).length) = (nI l.length) := of_decide_eq_true c_57
            have n_57 : ¬ ((tx.getD t []).length = l.length) := fun h9 => c_57 ((eq_nI (p := (tx.getD t []).length) (n := l.length) (by omega) (by omega)).mpr h9)
            refine ps_st (S' := (65, [(0, .ref m0), (1, .int (nI l.length)), (2, .int (nI (hsh l))), (3, .int (nI t))], [.int 0], M1)) rfl rfl rfl ?_
            refine ps_st (S' := (67, [(4, .int 0), (0, .ref m0), (1, .int (nI l.length)), (2, .int (nI (hsh l))), (3, .int (nI t))], [], M1)) rfl rfl rfl ?_
            refine ps_st (S' := (68, [(4, .int 0), (0, .ref m0), (1, .int (nI l.length)), (2, .int (nI (hsh l))), (3, .int (nI t))], [.int 0], M1)) rfl rfl rfl ?_
            refine ps_st (S' := (70, [(0, .ref m0), (1, .int (nI l.length)), (2, .int (nI (hsh l))), (3, .int (nI t)), (4, .int 0), (5, .int 0)], [], M1)) rfl rfl rfl ?_
            exact ih.2.2.1 (m) (t) (0) (0) M1 I1 R1 hR1 hEI1 hER1 hY1 hU1 (hm) (hg1) (hg2) (hg3) (hno) (by decide) (by omega) (fun h => absurd rfl h) (fun _ h => n_57 (by rw [h]))
          · have c_57 : ¬ (¬ (nI (tx.getD t []).length) = (nI l.length)) := of_decide_eq_false c_57
            have n_57 : (tx.getD t []).length = l.length := (eq_nI (p := (tx.getD t []).length) (n := l.length) (by omega) (by omega)).mp (Decidable.not_not.mp c_57)
            refine ps_st (S' := (61, [(0, .ref m0), (1, .int (nI l.length)), (2, .int (nI (hsh l))), (3, .int (nI t))], [.int 1], M1)) rfl rfl rfl ?_
            refine ps_st (S' := (65, [(0, .ref m0), (1, .int (nI l.length)), (2, .int (nI (hsh l))), (3, .int (nI t))], [.int 1], M1)) rfl rfl rfl ?_
            refine ps_st (S' := (67, [(4, .int 1), (0, .ref m0), (1, .int (nI l.length)), (2, .int (nI (hsh l))), (3, .int (nI t))], [], M1)) rfl rfl rfl ?_
            refine ps_st (S' := (68, [(4, .int 1), (0, .ref m0), (1, .int (nI l.length)), (2, .int (nI (hsh l))), (3, .int (nI t))], [.int 0], M1)) rfl rfl rfl ?_
            refine ps_st (S' := (70, [(0, .ref m0), (1, .int (nI l.length)), (2, .int (nI (hsh l))), (3, .int (nI t)), (4, .int 1), (5, .int 0)], [], M1)) rfl rfl rfl ?_
            exact ih.2.2.1 (m) (t) (0) (1) M1 I1 R1 hR1 hEI1 hER1 hY1 hU1 (hm) (hg1) (hg2) (hg3) (hno) (by decide) (by omega) (fun _ => ⟨by omega, fun i hi => by omega⟩) (fun h => absurd h (by decide))
      · skip
        intro m t k b M1 I1 R1 hR1 hEI1 hER1 hY1 hU1 hm hg1 hg2 hg3 hno hb2 hk hb1 hb0
        have hhl := hsh_lt l
        have hll := hY1.1.2.2
        refine ps_st1 (S' := (72, [(0, .ref m0), (1, .int (nI l.length)), (2, .int (nI (hsh l))), (3, .int (nI t)), (4, .int (nI b)), (5, .int (nI k))], [.int (nI k)], M1)) rfl rfl rfl ?_
        refine ps_st (S' := (73, [(0, .ref m0), (1, .int (nI l.length)), (2, .int (nI (hsh l))), (3, .int (nI t)), (4, .int (nI b)), (5, .int (nI k))], [.int (nI l.length), .int (nI k)], M1)) rfl rfl rfl ?_
        refine ps_if2 (S1 := (118, [(0, .ref m0), (1, .int (nI l.length)), (2, .int (nI (hsh l))), (3, .int (nI t)), (4, .int (nI b))], [], M1)) (S2 := (76, [(0, .ref m0), (1, .int (nI l.length)), (2, .int (nI (hsh l))), (3, .int (nI t)), (4, .int (nI b)), (5, .int (nI k))], [], M1)) rfl rfl rfl (fun c_73 => ?_) (fun c_73 => ?_)
        · have c_73 : (nI l.length) ≤ (nI k) := of_decide_eq_true c_73
          have n_73 : l.length ≤ k := (le_nI (p := l.length) (n := k) (by omega) (by omega)).mp c_73
          refine ps_st (S' := (120, [(0, .ref m0), (1, .int (nI l.length)), (2, .int (nI (hsh l))), (3, .int (nI t)), (4, .int (nI b))], [.int (nI b)], M1)) rfl rfl rfl ?_
          refine ps_if (S1 := (125, [(0, .ref m0), (1, .int (nI l.length)), (2, .int (nI (hsh l))), (3, .int (nI t)), (4, .int (nI b))], [], M1)) (S2 := (123, [(0, .ref m0), (1, .int (nI l.length)), (2, .int (nI (hsh l))), (3, .int (nI t)), (4, .int (nI b))], [], M1)) rfl rfl rfl (fun c_120 => ?_) (fun c_120 => ?_)
          · have c_120 : (nI b) = 0 := of_decide_eq_true c_120
            have n_120 : b = 0 := (eq_nI (p := b) (n := 0) (by omega) (by decide)).mp c_120
            refine ps_st (S' := (126, [(0, .ref m0), (1, .int (nI l.length)), (2, .int (nI (hsh l))), (3, .int (nI t)), (4, .int (nI b))], [.ref m0], M1)) rfl rfl rfl ?_
            refine pr_ref (j := 6) (S' := (129, [(0, .ref m0), (1, .int (nI l.length)), (2, .int (nI (hsh l))), (3, .int (nI t)), (4, .int (nI b))], [.ref (q 6)], M1)) rfl hR1 rfl rfl ?_
            refine ps_st (S' := (130, [(0, .ref m0), (1, .int (nI l.length)), (2, .int (nI (hsh l))), (3, .int (nI t)), (4, .int (nI b))], [.int (nI t), .ref (q 6)], M1)) rfl rfl rfl ?_
            refine pr_ld (a := 6) (j := t) (y := (gI (gb tx t (hsh (tx.getD t []))))) (S' := (131, [(0, .ref m0), (1, .int (nI l.length)), (2, .int (nI (hsh l))), (3, .int (nI t)), (4, .int (nI b))], [.int (gI (gb tx t (hsh (tx.getD t []))))], M1)) rfl hR1 rfl (by omega) (fun _ => hY1.2.2.1 t (by omega)) rfl (fun i1_130 => ?_)
            refine ps_st (S' := (132, [(3, .int (gI (gb tx t (hsh (tx.getD t []))))), (0, .ref m0), (1, .int (nI l.length)), (2, .int (nI (hsh l))), (4, .int (nI b))], [], M1)) rfl rfl rfl ?_
            refine ps_st (S' := (46, [(0, .ref m0), (1, .int (nI l.length)), (2, .int (nI (hsh l))), (3, .int (gI (gb tx t (hsh (tx.getD t [])))))], [], M1)) rfl rfl rfl ?_
            exact ih.2.1 (t) ((gI (gb tx t (hsh (tx.getD t []))))) M1 I1 R1 hR1 hEI1 hER1 hY1 hU1 (by omega) (by rw [hg2]) (by
                intro s h1 h2 h3
                by_cases e1 : s = t
                · rw [e1] at h3; exact hb0 (by omega) h3
                · by_cases e2 : s < m
                  · exact hg3 s (by omega) e2 (by rw [h3])
                  · exact hno s (by omega) h2 h3)
          · have c_120 : ¬ ((nI b) = 0) := of_decide_eq_false c_120
            have n_120 : ¬ (b = 0) := fun h9 => c_120 ((eq_nI (p := b) (n := 0) (by omega) (by decide)).mpr h9)
            refine ps_st (S' := (124, [(0, .ref m0), (1, .int (nI l.length)), (2, .int (nI (hsh l))), (3, .int (nI t)), (4, .int (nI b))], [.int (nI t)], M1)) rfl rfl rfl ?_
            exact ps_reti rfl (⟨tx, cN, A, t, I1, R1, ⟨by omega, ls_ext (hb1 (by omega)).1 (fun i hi => (hb1 (by omega)).2 i (by have := (hb1 (by omega)).1; omega))⟩, ⟨Nat.le_refl _, fun s _ => rfl⟩, rfl, hR1, hEI1, hER1, hY1⟩)
        · have c_73 : ¬ ((nI l.length) ≤ (nI k)) := of_decide_eq_false c_73
          have n_73 : ¬ (l.length ≤ k) := fun h9 => c_73 ((le_nI (p := l.length) (n := k) (by omega) (by omega)).mpr h9)
          refine ps_st (S' := (78, [(0, .ref m0), (1, .int (nI l.length)), (2, .int (nI (hsh l))), (3, .int (nI t)), (4, .int (nI b)), (5, .int (nI k))], [.int (nI b)], M1)) rfl rfl rfl ?_
          refine ps_if (S1 := (118, [(0, .ref m0), (1, .int (nI l.length)), (2, .int (nI (hsh l))), (3, .int (nI t)), (4, .int (nI b))], [], M1)) (S2 := (81, [(0, .ref m0), (1, .int (nI l.length)), (2, .int (nI (hsh l))), (3, .int (nI t)), (4, .int (nI b)), (5, .int (nI k))], [], M1)) rfl rfl rfl (fun c_78 => ?_) (fun c_78 => ?_)
          · have c_78 : (nI b) = 0 := of_decide_eq_true c_78
            have n_78 : b = 0 := (eq_nI (p := b) (n := 0) (by omega) (by decide)).mp c_78
            refine ps_st (S' := (120, [(0, .ref m0), (1, .int (nI l.length)), (2, .int (nI (hsh l))), (3, .int (nI t)), (4, .int (nI b))], [.int (nI b)], M1)) rfl rfl rfl ?_
            refine ps_if (S1 := (125, [(0, .ref m0), (1, .int (nI l.length)), (2, .int (nI (hsh l))), (3, .int (nI t)), (4, .int (nI b))], [], M1)) (S2 := (123, [(0, .ref m0), (1, .int (nI l.length)), (2, .int (nI (hsh l))), (3, .int (nI t)), (4, .int (nI b))], [], M1)) rfl rfl rfl (fun c_120 => ?_) (fun c_120 => ?_)
            · have c_120 : (nI b) = 0 := of_decide_eq_true c_120
              have n_120 : b = 0 := (eq_nI (p := b) (n := 0) (by omega) (by decide)).mp c_120
              refine ps_st (S' := (126, [(0, .ref m0), (1, .int (nI l.length)), (2, .int (nI (hsh l))), (3, .int (nI t)), (4, .int (nI b))], [.ref m0], M1)) rfl rfl rfl ?_
              refine pr_ref (j := 6) (S' := (129, [(0, .ref m0), (1, .int (nI l.length)), (2, .int (nI (hsh l))), (3, .int (nI t)), (4, .int (nI b))], [.ref (q 6)], M1)) rfl hR1 rfl rfl ?_
              refine ps_st (S' := (130, [(0, .ref m0), (1, .int (nI l.length)), (2, .int (nI (hsh l))), (3, .int (nI t)), (4, .int (nI b))], [.int (nI t), .ref (q 6)], M1)) rfl rfl rfl ?_
              refine pr_ld (a := 6) (j := t) (y := (gI (gb tx t (hsh (tx.getD t []))))) (S' := (131, [(0, .ref m0), (1, .int (nI l.length)), (2, .int (nI (hsh l))), (3, .int (nI t)), (4, .int (nI b))], [.int (gI (gb tx t (hsh (tx.getD t []))))], M1)) rfl hR1 rfl (by omega) (fun _ => hY1.2.2.1 t (by omega)) rfl (fun i1_130 => ?_)
              refine ps_st (S' := (132, [(3, .int (gI (gb tx t (hsh (tx.getD t []))))), (0, .ref m0), (1, .int (nI l.length)), (2, .int (nI (hsh l))), (4, .int (nI b))], [], M1)) rfl rfl rfl ?_
              refine ps_st (S' := (46, [(0, .ref m0), (1, .int (nI l.length)), (2, .int (nI (hsh l))), (3, .int (gI (gb tx t (hsh (tx.getD t [])))))], [], M1)) rfl rfl rfl ?_
              exact ih.2.1 (t) ((gI (gb tx t (hsh (tx.getD t []))))) M1 I1 R1 hR1 hEI1 hER1 hY1 hU1 (by omega) (by rw [hg2]) (by
                  intro s h1 h2 h3
                  by_cases e1 : s = t
                  · rw [e1] at h3; exact hb0 (by omega) h3
                  · by_cases e2 : s < m
                    · exact hg3 s (by omega) e2 (by rw [h3])
                    · exact hno s (by omega) h2 h3)
            · have c_120 : ¬ ((nI b) = 0) := of_decide_eq_false c_120
              have n_120 : ¬ (b = 0) := fun h9 => c_120 ((eq_nI (p := b) (n := 0) (by omega) (by decide)).mpr h9)
              refine ps_st (S' := (124, [(0, .ref m0), (1, .int (nI l.length)), (2, .int (nI (hsh l))), (3, .int (nI t)), (4, .int (nI b))], [.int (nI t)], M1)) rfl rfl rfl ?_
              exact ps_reti rfl (⟨tx, cN, A, t, I1, R1, ⟨by omega, ls_ext (hb1 (by omega)).1 (fun i hi => (hb1 (by omega)).2 i (by have := (hb1 (by omega)).1; omega))⟩, ⟨Nat.le_refl _, fun s _ => rfl⟩, rfl, hR1, hEI1, hER1, hY1⟩)
          · have c_78 : ¬ ((nI b) = 0) := of_decide_eq_false c_78
            have n_78 : ¬ (b = 0) := fun h9 => c_78 ((eq_nI (p := b) (n := 0) (by omega) (by decide)).mpr h9)
            refine ps_st (S' := (82, [(0, .ref m0), (1, .int (nI l.length)), (2, .int (nI (hsh l))), (3, .int (nI t)), (4, .int (nI b)), (5, .int (nI k))], [.ref m0], M1)) rfl rfl rfl ?_
            refine pr_ref (j := 1) (S' := (85, [(0, .ref m0), (1, .int (nI l.length)), (2, .int (nI (hsh l))), (3, .int (nI t)), (4, .int (nI b)), (5, .int (nI k))], [.ref (q 1)], M1)) rfl hR1 rfl rfl ?_
            refine ps_st (S' := (86, [(0, .ref m0), (1, .int (nI l.length)), (2, .int (nI (hsh l))), (3, .int (nI t)), (4, .int (nI b)), (5, .int (nI k))], [.ref m0, .ref (q 1)], M1)) rfl rfl rfl ?_
            refine pr_ref (j := 4) (S' := (89, [(0, .ref m0), (1, .int (nI l.length)), (2, .int (nI (hsh l))), (3, .int (nI t)), (4, .int (nI b)), (5, .int (nI k))], [.ref (q 4), .ref (q 1)], M1)) rfl hR1 rfl rfl ?_
            refine ps_st (S' := (90, [(0, .ref m0), (1, .int (nI l.length)), (2, .int (nI (hsh l))), (3, .int (nI t)), (4, .int (nI b)), (5, .int (nI k))], [.int (nI t), .ref (q 4), .ref (q 1)], M1)) rfl rfl rfl ?_
            have hA_90 := (hY1.2.1 t (by omega)).2.2.1
            refine pr_ld (a := 4) (j := t) (y := (nI (A t))) (S' := (91, [(0, .ref m0), (1, .int (nI l.length)), (2, .int (nI (hsh l))), (3, .int (nI t)), (4, .int (nI b)), (5, .int (nI k))], [.int (nI (A t)), .ref (q 1)], M1)) rfl hR1 rfl (by omega) (fun _ => (hY1.2.1 t (by omega)).1) rfl (fun i1_90 => ?_)
            refine ps_st (S' := (93, [(0, .ref m0), (1, .int (nI l.length)), (2, .int (nI (hsh l))), (3, .int (nI t)), (4, .int (nI b)), (5, .int (nI k))], [.int (nI k), .int (nI (A t)), .ref (q 1)], M1)) rfl rfl rfl ?_
            refine ps_st (S' := (94, [(0, .ref m0), (1, .int (nI l.length)), (2, .int (nI (hsh l))), (3, .int (nI t)), (4, .int (nI b)), (5, .int (nI k))], [.int ((nI (A t)) + (nI k)), .ref (q 1)], M1)) rfl rfl rfl ?_
            rw [nI_add1 (p := A t) (k := k) (x := (nI k)) rfl (by omega)]
            show pl _ _ _ (_, [(0, .ref m0), (1, .int (nI l.length)), (2, .int (nI (hsh l))), (3, .int (nI t)), (4, .int (nI b)), (5, .int (nI k))], [.int (nI (A t + k)), .ref (q 1)], M1) _
            have hch_94 := ((hY1.2.1 t (by omega)).2.2.2 k (by omega)).2
            refine pr_ld (a := 1) (j := A t + k) (y := (nI ((tx.getD t []).getD k 0))) (S' := (95, [(0, .ref m0), (1, .int (nI l.length)), (2, .int (nI (hsh l))), (3, .int (nI t)), (4, .int (nI b)), (5, .int (nI k))], [.int (nI ((tx.getD t []).getD k 0))], M1)) rfl hR1 rfl (by omega) (fun _ => ((hY1.2.1 t (by omega)).2.2.2 k (by omega)).1) rfl (fun i1_94 => ?_)
            refine ps_st (S' := (96, [(0, .ref m0), (1, .int (nI l.length)), (2, .int (nI (hsh l))), (3, .int (nI t)), (4, .int (nI b)), (5, .int (nI k))], [.ref m0, .int (nI ((tx.getD t []).getD k 0))], M1)) rfl rfl rfl ?_
            refine pr_ref (j := 2) (S' := (99, [(0, .ref m0), (1, .int (nI l.length)), (2, .int (nI (hsh l))), (3, .int (nI t)), (4, .int (nI b)), (5, .int (nI k))], [.ref (q 2), .int (nI ((tx.getD t []).getD k 0))], M1)) rfl hR1 rfl rfl ?_
            refine ps_st (S' := (101, [(0, .ref m0), (1, .int (nI l.length)), (2, .int (nI (hsh l))), (3, .int (nI t)), (4, .int (nI b)), (5, .int (nI k))], [.int (nI k), .ref (q 2), .int (nI ((tx.getD t []).getD k 0))], M1)) rfl rfl rfl ?_
            have hcu_101 := (hU1 k (by omega)).2
            refine pr_ld (a := 2) (j := k) (y := (nI (l.getD k 0))) (S' := (102, [(0, .ref m0), (1, .int (nI l.length)), (2, .int (nI (hsh l))), (3, .int (nI t)), (4, .int (nI b)), (5, .int (nI k))], [.int (nI (l.getD k 0)), .int (nI ((tx.getD t []).getD k 0))], M1)) rfl hR1 rfl (by omega) (fun _ => (hU1 k (by omega)).1) rfl (fun i1_101 => ?_)
            refine ps_if2 (S1 := (109, [(0, .ref m0), (1, .int (nI l.length)), (2, .int (nI (hsh l))), (3, .int (nI t)), (4, .int (nI b)), (5, .int (nI k))], [], M1)) (S2 := (105, [(0, .ref m0), (1, .int (nI l.length)), (2, .int (nI (hsh l))), (3, .int (nI t)), (4, .int (nI b)), (5, .int (nI k))], [], M1)) rfl rfl rfl (fun c_102 => ?_) (fun c_102 => ?_)
            · have c_102 : ¬ (nI ((tx.getD t []).getD k 0)) = (nI (l.getD k 0)) := of_decide_eq_true c_102
              have n_102 : ¬ ((tx.getD t []).getD k 0 = l.getD k 0) := fun h9 => c_102 ((eq_nI (p := (tx.getD t []).getD k 0) (n := l.getD k 0) (by omega) (by omega)).mpr h9)
              refine ps_st (S' := (110, [(0, .ref m0), (1, .int (nI l.length)), (2, .int (nI (hsh l))), (3, .int (nI t)), (5, .int (nI k))], [.int 0], M1)) rfl rfl rfl ?_
              refine ps_st (S' := (112, [(4, .int 0), (0, .ref m0), (1, .int (nI l.length)), (2, .int (nI (hsh l))), (3, .int (nI t)), (5, .int (nI k))], [], M1)) rfl rfl rfl ?_
              refine ps_st (S' := (115, [(5, .int ((nI k) + 1)), (4, .int 0), (0, .ref m0), (1, .int (nI l.length)), (2, .int (nI (hsh l))), (3, .int (nI t))], [], M1)) rfl rfl rfl ?_
              rw [nI_add1 (p := k) (k := 1) (x := 1) rfl (by omega)]
              show pl _ _ _ (_, [(5, .int (nI (k + 1))), (4, .int 0), (0, .ref m0), (1, .int (nI l.length)), (2, .int (nI (hsh l))), (3, .int (nI t))], [], M1) _
              refine ps_st (S' := (70, [(0, .ref m0), (1, .int (nI l.length)), (2, .int (nI (hsh l))), (3, .int (nI t)), (4, .int 0), (5, .int (nI (k + 1)))], [], M1)) rfl rfl rfl ?_
              exact ih.2.2.1 (m) (t) (k + 1) (0) M1 I1 R1 hR1 hEI1 hER1 hY1 hU1 (hm) (hg1) (hg2) (hg3) (hno) (by decide) (by omega) (fun h => absurd rfl h) (fun _ h => n_102 (by rw [h]))
            · have c_102 : ¬ (¬ (nI ((tx.getD t []).getD k 0)) = (nI (l.getD k 0))) := of_decide_eq_false c_102
              have n_102 : (tx.getD t []).getD k 0 = l.getD k 0 := (eq_nI (p := (tx.getD t []).getD k 0) (n := l.getD k 0) (by omega) (by omega)).mp (Decidable.not_not.mp c_102)
              refine ps_st (S' := (106, [(0, .ref m0), (1, .int (nI l.length)), (2, .int (nI (hsh l))), (3, .int (nI t)), (4, .int (nI b)), (5, .int (nI k))], [.int 1], M1)) rfl rfl rfl ?_
              refine ps_st (S' := (110, [(0, .ref m0), (1, .int (nI l.length)), (2, .int (nI (hsh l))), (3, .int (nI t)), (5, .int (nI k))], [.int 1], M1)) rfl rfl rfl ?_
              refine ps_st (S' := (112, [(4, .int 1), (0, .ref m0), (1, .int (nI l.length)), (2, .int (nI (hsh l))), (3, .int (nI t)), (5, .int (nI k))], [], M1)) rfl rfl rfl ?_
              refine ps_st (S' := (115, [(5, .int ((nI k) + 1)), (4, .int 1), (0, .ref m0), (1, .int (nI l.length)), (2, .int (nI (hsh l))), (3, .int (nI t))], [], M1)) rfl rfl rfl ?_
              rw [nI_add1 (p := k) (k := 1) (x := 1) rfl (by omega)]
              show pl _ _ _ (_, [(5, .int (nI (k + 1))), (4, .int 1), (0, .ref m0), (1, .int (nI l.length)), (2, .int (nI (hsh l))), (3, .int (nI t))], [], M1) _
              refine ps_st (S' := (70, [(0, .ref m0), (1, .int (nI l.length)), (2, .int (nI (hsh l))), (3, .int (nI t)), (4, .int 1), (5, .int (nI (k + 1)))], [], M1)) rfl rfl rfl ?_
              exact ih.2.2.1 (m) (t) (k + 1) (1) M1 I1 R1 hR1 hEI1 hER1 hY1 hU1 (hm) (hg1) (hg2) (hg3) (hno) (by decide) (by omega) (by
                  intro _
                  refine ⟨(hb1 n_78).1, fun i hi => ?_⟩
                  by_cases e : i = k
                  · rw [e]; exact n_102
                  · exact (hb1 n_78).2 i (by omega)) (fun h => absurd h (by decide))
      · skip
        intro k M1 I1 R1 hR1 hEI1 hER1 hY1 hU1 hP1 hk hno
        have hhl := hsh_lt l
        have hll := hY1.1.2.2
        refine ps_st1 (S' := (138, [(0, .ref m0), (1, .int (nI l.length)), (2, .int (nI (hsh l))), (3, .int (nI k))], [.int (nI k)], M1)) rfl rfl rfl ?_
        refine ps_st (S' := (139, [(0, .ref m0), (1, .int (nI l.length)), (2, .int (nI (hsh l))), (3, .int (nI k))], [.int (nI l.length), .int (nI k)], M1)) rfl rfl rfl ?_
        refine ps_if2 (S1 := (165, [(0, .ref m0), (1, .int (nI l.length)), (2, .int (nI (hsh l))), (3, .int (nI k))], [], M1)) (S2 := (142, [(0, .ref m0), (1, .int (nI l.length)), (2, .int (nI (hsh l))), (3, .int (nI k))], [], M1)) rfl rfl rfl (fun c_139 => ?_) (fun c_139 => ?_)
        · have c_139 : (nI l.length) ≤ (nI k) := of_decide_eq_true c_139
          have n_139 : l.length ≤ k := (le_nI (p := l.length) (n := k) (by omega) (by omega)).mp c_139
          have ek : k = l.length := by omega
          have hP9 := hP1
          rw [ek] at hP9
          refine ps_st (S' := (166, [(0, .ref m0), (1, .int (nI l.length)), (2, .int (nI (hsh l))), (3, .int (nI k))], [.ref m0], M1)) rfl rfl rfl ?_
          refine ps_st (S' := (167, [(0, .ref m0), (1, .int (nI l.length)), (2, .int (nI (hsh l))), (3, .int (nI k))], [.ref m0, .ref m0], M1)) rfl rfl rfl ?_
          refine pr_int (j := 8) (S' := (170, [(0, .ref m0), (1, .int (nI l.length)), (2, .int (nI (hsh l))), (3, .int (nI k))], [.int (nI tx.length), .ref m0], M1)) rfl hR1 rfl hY1.1.1 rfl ?_
          refine ps_st (S' := (171, [(0, .ref m0), (1, .int (nI l.length)), (2, .int (nI (hsh l))), (3, .int (nI k))], [.int (nI tx.length), .ref m0, .int (nI tx.length)], M1)) rfl rfl rfl ?_
          refine ps_st (S' := (172, [(0, .ref m0), (1, .int (nI l.length)), (2, .int (nI (hsh l))), (3, .int (nI k))], [.int 1, .int (nI tx.length), .ref m0, .int (nI tx.length)], M1)) rfl rfl rfl ?_
          refine ps_st (S' := (173, [(0, .ref m0), (1, .int (nI l.length)), (2, .int (nI (hsh l))), (3, .int (nI k))], [.int ((nI tx.length) + 1), .ref m0, .int (nI tx.length)], M1)) rfl rfl rfl ?_
          rw [nI_add1 (p := tx.length) (k := 1) (x := 1) rfl (by omega)]
          show pl _ _ _ (_, [(0, .ref m0), (1, .int (nI l.length)), (2, .int (nI (hsh l))), (3, .int (nI k))], [.int (nI (tx.length + 1)), .ref m0, .int (nI tx.length)], M1) _
          refine pr_put (j := 8) rfl hR1 rfl (fun M1 I2 hR3 hi4 hI5 => ?_)
          have hi6 := (hI5 3 (by decide)).trans hY1.1.2.1
          have hU_7 := hU1.mono (pIx hI5 (by decide)) (fun _ _ => rfl)
          have hP_8 := hP1.mono (pIx hI5 (by decide)) (fun _ _ => rfl)
          have hEI9 := hEI1.put hI5 (by decide)
          show pl _ _ _ (176, [(0, .ref m0), (1, .int (nI l.length)), (2, .int (nI (hsh l))), (3, .int (nI k))], [.int (nI tx.length)], M1) _
          refine ps_st (S' := (177, [(3, .int (nI tx.length)), (0, .ref m0), (1, .int (nI l.length)), (2, .int (nI (hsh l)))], [], M1)) rfl rfl rfl ?_
          refine ps_st (S' := (178, [(3, .int (nI tx.length)), (0, .ref m0), (1, .int (nI l.length)), (2, .int (nI (hsh l)))], [.ref m0], M1)) rfl rfl rfl ?_
          refine pr_ref (j := 4) (S' := (181, [(3, .int (nI tx.length)), (0, .ref m0), (1, .int (nI l.length)), (2, .int (nI (hsh l)))], [.ref (q 4)], M1)) rfl hR3 rfl rfl ?_
          refine ps_st (S' := (182, [(3, .int (nI tx.length)), (0, .ref m0), (1, .int (nI l.length)), (2, .int (nI (hsh l)))], [.int (nI tx.length), .ref (q 4)], M1)) rfl rfl rfl ?_
          refine ps_st (S' := (183, [(3, .int (nI tx.length)), (0, .ref m0), (1, .int (nI l.length)), (2, .int (nI (hsh l)))], [.ref m0, .int (nI tx.length), .ref (q 4)], M1)) rfl rfl rfl ?_
          refine pr_int (j := 3) (S' := (186, [(3, .int (nI tx.length)), (0, .ref m0), (1, .int (nI l.length)), (2, .int (nI (hsh l)))], [.int (nI cN), .int (nI tx.length), .ref (q 4)], M1)) rfl hR3 rfl hi6 rfl ?_
          refine pr_st (a := 4) (j := tx.length) rfl hR3 rfl (by omega) (fun M10 R11 i1_186 hR12 hS13 => ?_)
          have hU_14 := hU_7.mono (fun _ _ => rfl) (rRx hS13 (by decide))
          have hP_15 := hP_8.mono (fun _ _ => rfl) (rRx hS13 (by decide))
          have hER16 := hER1.st hS13 (by decide)
          show pl _ _ _ (187, [(3, .int (nI tx.length)), (0, .ref m0), (1, .int (nI l.length)), (2, .int (nI (hsh l)))], [], M10) _
          refine ps_st (S' := (188, [(3, .int (nI tx.length)), (0, .ref m0), (1, .int (nI l.length)), (2, .int (nI (hsh l)))], [.ref m0], M10)) rfl rfl rfl ?_
          refine pr_ref (j := 5) (S' := (191, [(3, .int (nI tx.length)), (0, .ref m0), (1, .int (nI l.length)), (2, .int (nI (hsh l)))], [.ref (q 5)], M10)) rfl hR12 rfl rfl ?_
          refine ps_st (S' := (192, [(3, .int (nI tx.length)), (0, .ref m0), (1, .int (nI l.length)), (2, .int (nI (hsh l)))], [.int (nI tx.length), .ref (q 5)], M10)) rfl rfl rfl ?_
          refine ps_st (S' := (193, [(3, .int (nI tx.length)), (0, .ref m0), (1, .int (nI l.length)), (2, .int (nI (hsh l)))], [.int (nI l.length), .int (nI tx.length), .ref (q 5)], M10)) rfl rfl rfl ?_
          refine pr_st (a := 5) (j := tx.length) rfl hR12 rfl (by omega) (fun M17 R18 i1_193 hR19 hS20 => ?_)
          have hU_21 := hU_14.mono (fun _ _ => rfl) (rRx hS20 (by decide))
          have hP_22 := hP_15.mono (fun _ _ => rfl) (rRx hS20 (by decide))
          have hER23 := hER16.st hS20 (by decide)
          show pl _ _ _ (194, [(3, .int (nI tx.length)), (0, .ref m0), (1, .int (nI l.length)), (2, .int (nI (hsh l)))], [], M17) _
          refine ps_st (S' := (195, [(3, .int (nI tx.length)), (0, .ref m0), (1, .int (nI l.length)), (2, .int (nI (hsh l)))], [.ref m0], M17)) rfl rfl rfl ?_
          refine pr_ref (j := 6) (S' := (198, [(3, .int (nI tx.length)), (0, .ref m0), (1, .int (nI l.length)), (2, .int (nI (hsh l)))], [.ref (q 6)], M17)) rfl hR19 rfl rfl ?_
          refine ps_st (S' := (199, [(3, .int (nI tx.length)), (0, .ref m0), (1, .int (nI l.length)), (2, .int (nI (hsh l)))], [.int (nI tx.length), .ref (q 6)], M17)) rfl rfl rfl ?_
          refine ps_st (S' := (200, [(3, .int (nI tx.length)), (0, .ref m0), (1, .int (nI l.length)), (2, .int (nI (hsh l)))], [.ref m0, .int (nI tx.length), .ref (q 6)], M17)) rfl rfl rfl ?_
          refine pr_ref (j := 7) (S' := (203, [(3, .int (nI tx.length)), (0, .ref m0), (1, .int (nI l.length)), (2, .int (nI (hsh l)))], [.ref (q 7), .int (nI tx.length), .ref (q 6)], M17)) rfl hR19 rfl rfl ?_
          refine ps_st (S' := (204, [(3, .int (nI tx.length)), (0, .ref m0), (1, .int (nI l.length)), (2, .int (nI (hsh l)))], [.int (nI (hsh l)), .ref (q 7), .int (nI tx.length), .ref (q 6)], M17)) rfl rfl rfl ?_
          refine pr_ld (a := 7) (j := hsh l) (y := (gI (gb tx tx.length (hsh l)))) (S' := (205, [(3, .int (nI tx.length)), (0, .ref m0), (1, .int (nI l.length)), (2, .int (nI (hsh l)))], [.int (gI (gb tx tx.length (hsh l))), .int (nI tx.length), .ref (q 6)], M17)) rfl hR19 rfl (by omega) (by
              intro _
              rw [hS20, rset_ne (by decide), hS13, rset_ne (by decide)]
              exact hY1.2.2.2.1 (hsh l) (by omega)) rfl (fun i1_204 => ?_)
          refine pr_st (a := 6) (j := tx.length) rfl hR19 rfl (by omega) (fun M24 R25 i1_205 hR26 hS27 => ?_)
          have hU_28 := hU_21.mono (fun _ _ => rfl) (rRx hS27 (by decide))
          have hP_29 := hP_22.mono (fun _ _ => rfl) (rRx hS27 (by decide))
          have hER30 := hER23.st hS27 (by decide)
          show pl _ _ _ (206, [(3, .int (nI tx.length)), (0, .ref m0), (1, .int (nI l.length)), (2, .int (nI (hsh l)))], [], M24) _
          refine ps_st (S' := (207, [(3, .int (nI tx.length)), (0, .ref m0), (1, .int (nI l.length)), (2, .int (nI (hsh l)))], [.ref m0], M24)) rfl rfl rfl ?_
          refine pr_ref (j := 7) (S' := (210, [(3, .int (nI tx.length)), (0, .ref m0), (1, .int (nI l.length)), (2, .int (nI (hsh l)))], [.ref (q 7)], M24)) rfl hR26 rfl rfl ?_
          refine ps_st (S' := (211, [(3, .int (nI tx.length)), (0, .ref m0), (1, .int (nI l.length)), (2, .int (nI (hsh l)))], [.int (nI (hsh l)), .ref (q 7)], M24)) rfl rfl rfl ?_
          refine ps_st (S' := (212, [(3, .int (nI tx.length)), (0, .ref m0), (1, .int (nI l.length)), (2, .int (nI (hsh l)))], [.int (nI tx.length), .int (nI (hsh l)), .ref (q 7)], M24)) rfl rfl rfl ?_
          refine pr_st (a := 7) (j := hsh l) rfl hR26 rfl (by omega) (fun M31 R32 i1_212 hR33 hS34 => ?_)
          have hU_35 := hU_28.mono (fun _ _ => rfl) (rRx hS34 (by decide))
          have hP_36 := hP_29.mono (fun _ _ => rfl) (rRx hS34 (by decide))
          have hER37 := hER30.st hS34 (by decide)
          show pl _ _ _ (213, [(3, .int (nI tx.length)), (0, .ref m0), (1, .int (nI l.length)), (2, .int (nI (hsh l)))], [], M31) _
          refine ps_st (S' := (214, [(3, .int (nI tx.length)), (0, .ref m0), (1, .int (nI l.length)), (2, .int (nI (hsh l)))], [.ref m0], M31)) rfl rfl rfl ?_
          refine ps_st (S' := (215, [(3, .int (nI tx.length)), (0, .ref m0), (1, .int (nI l.length)), (2, .int (nI (hsh l)))], [.ref m0, .ref m0], M31)) rfl rfl rfl ?_
          refine pr_int (j := 3) (S' := (218, [(3, .int (nI tx.length)), (0, .ref m0), (1, .int (nI l.length)), (2, .int (nI (hsh l)))], [.int (nI cN), .ref m0], M31)) rfl hR33 rfl hi6 rfl ?_
          refine ps_st (S' := (219, [(3, .int (nI tx.length)), (0, .ref m0), (1, .int (nI l.length)), (2, .int (nI (hsh l)))], [.int (nI l.length), .int (nI cN), .ref m0], M31)) rfl rfl rfl ?_
          refine ps_st (S' := (220, [(3, .int (nI tx.length)), (0, .ref m0), (1, .int (nI l.length)), (2, .int (nI (hsh l)))], [.int ((nI cN) + (nI l.length)), .ref m0], M31)) rfl rfl rfl ?_
          rw [nI_add1 (p := cN) (k := l.length) (x := (nI l.length)) rfl (by omega)]
          show pl _ _ _ (_, [(3, .int (nI tx.length)), (0, .ref m0), (1, .int (nI l.length)), (2, .int (nI (hsh l)))], [.int (nI (cN + l.length)), .ref m0], M31) _
          refine pr_put (j := 3) rfl hR33 rfl (fun M38 I39 hR40 hi41 hI42 => ?_)
          have hi43 := (hI42 8 (by decide)).trans hi4
          have hU_44 := hU_35.mono (pIx hI42 (by decide)) (fun _ _ => rfl)
          have hP_45 := hP_36.mono (pIx hI42 (by decide)) (fun _ _ => rfl)
          have hEI46 := hEI9.put hI42 (by decide)
          show pl _ _ _ (223, [(3, .int (nI tx.length)), (0, .ref m0), (1, .int (nI l.length)), (2, .int (nI (hsh l)))], [], M38) _
          refine ps_st (S' := (224, [(3, .int (nI tx.length)), (0, .ref m0), (1, .int (nI l.length)), (2, .int (nI (hsh l)))], [.int (nI tx.length)], M38)) rfl rfl rfl ?_
          have hY9 := SYT.add (I' := I39) hY1 hP9 hno hS13 hS20 hS27 hS34 hi43 hi41 (by omega) (by omega)
          exact ps_reti rfl (⟨tx ++ [l], _, _, tx.length, I39, R32, ⟨by simp, gd_at⟩, ⟨by simp, fun s hs => gd_ap hs⟩, rfl, hR40, hEI46, hER37, hY9⟩)
        · have c_139 : ¬ ((nI l.length) ≤ (nI k)) := of_decide_eq_false c_139
          have n_139 : ¬ (l.length ≤ k) := fun h9 => c_139 ((le_nI (p := l.length) (n := k) (by omega) (by omega)).mpr h9)
          refine ps_st (S' := (143, [(0, .ref m0), (1, .int (nI l.length)), (2, .int (nI (hsh l))), (3, .int (nI k))], [.ref m0], M1)) rfl rfl rfl ?_
          refine pr_ref (j := 1) (S' := (146, [(0, .ref m0), (1, .int (nI l.length)), (2, .int (nI (hsh l))), (3, .int (nI k))], [.ref (q 1)], M1)) rfl hR1 rfl rfl ?_
          refine ps_st (S' := (147, [(0, .ref m0), (1, .int (nI l.length)), (2, .int (nI (hsh l))), (3, .int (nI k))], [.ref m0, .ref (q 1)], M1)) rfl rfl rfl ?_
          refine pr_int (j := 3) (S' := (150, [(0, .ref m0), (1, .int (nI l.length)), (2, .int (nI (hsh l))), (3, .int (nI k))], [.int (nI cN), .ref (q 1)], M1)) rfl hR1 rfl hY1.1.2.1 rfl ?_
          refine ps_st (S' := (151, [(0, .ref m0), (1, .int (nI l.length)), (2, .int (nI (hsh l))), (3, .int (nI k))], [.int (nI k), .int (nI cN), .ref (q 1)], M1)) rfl rfl rfl ?_
          refine ps_st (S' := (152, [(0, .ref m0), (1, .int (nI l.length)), (2, .int (nI (hsh l))), (3, .int (nI k))], [.int ((nI cN) + (nI k)), .ref (q 1)], M1)) rfl rfl rfl ?_
          rw [nI_add1 (p := cN) (k := k) (x := (nI k)) rfl (by omega)]
          show pl _ _ _ (_, [(0, .ref m0), (1, .int (nI l.length)), (2, .int (nI (hsh l))), (3, .int (nI k))], [.int (nI (cN + k)), .ref (q 1)], M1) _
          refine ps_st (S' := (153, [(0, .ref m0), (1, .int (nI l.length)), (2, .int (nI (hsh l))), (3, .int (nI k))], [.ref m0, .int (nI (cN + k)), .ref (q 1)], M1)) rfl rfl rfl ?_
          refine pr_ref (j := 2) (S' := (156, [(0, .ref m0), (1, .int (nI l.length)), (2, .int (nI (hsh l))), (3, .int (nI k))], [.ref (q 2), .int (nI (cN + k)), .ref (q 1)], M1)) rfl hR1 rfl rfl ?_
          refine ps_st (S' := (157, [(0, .ref m0), (1, .int (nI l.length)), (2, .int (nI (hsh l))), (3, .int (nI k))], [.int (nI k), .ref (q 2), .int (nI (cN + k)), .ref (q 1)], M1)) rfl rfl rfl ?_
          have hcu_157 := (hU1 k (by omega)).2
          refine pr_ld (a := 2) (j := k) (y := (nI (l.getD k 0))) (S' := (158, [(0, .ref m0), (1, .int (nI l.length)), (2, .int (nI (hsh l))), (3, .int (nI k))], [.int (nI (l.getD k 0)), .int (nI (cN + k)), .ref (q 1)], M1)) rfl hR1 rfl (by omega) (fun _ => (hU1 k (by omega)).1) rfl (fun i1_157 => ?_)
          refine pr_st (a := 1) (j := cN + k) rfl hR1 rfl (by omega) (fun M47 R48 i1_158 hR49 hS50 => ?_)
          have hU_51 := hU1.mono (fun _ _ => rfl) (rRx hS50 (by decide))
          have hER52 := hER1.st hS50 (by decide)
          show pl _ _ _ (159, [(0, .ref m0), (1, .int (nI l.length)), (2, .int (nI (hsh l))), (3, .int (nI k))], [], M47) _
          have hY_53 := hY1.wr hS50 (by omega)
          have hP_54 := hP1.snoc hS50 (hU1 k (by omega)).2
          refine ps_st (S' := (162, [(3, .int ((nI k) + 1)), (0, .ref m0), (1, .int (nI l.length)), (2, .int (nI (hsh l)))], [], M47)) rfl rfl rfl ?_
          rw [nI_add1 (p := k) (k := 1) (x := 1) rfl (by omega)]
          show pl _ _ _ (_, [(3, .int (nI (k + 1))), (0, .ref m0), (1, .int (nI l.length)), (2, .int (nI (hsh l)))], [], M47) _
          refine ps_st (S' := (137, [(0, .ref m0), (1, .int (nI l.length)), (2, .int (nI (hsh l))), (3, .int (nI (k + 1)))], [], M47)) rfl rfl rfl ?_
          exact ih.2.2.2 (k + 1) M47 I1 R48 hR49 hEI1 hER52 hY_53 hU_51 hP_54 (by omega) (hno)
  refine ps_st (S' := (2, [(0, .ref m0), (1, .int (nI l.length))], [.int 7], M)) rfl rfl rfl ?_
  refine ps_st (S' := (3, [(2, .int 7), (0, .ref m0), (1, .int (nI l.length))], [], M)) rfl rfl rfl ?_
  refine ps_st (S' := (4, [(2, .int 7), (0, .ref m0), (1, .int (nI l.length))], [.int 0], M)) rfl rfl rfl ?_
  refine ps_st (S' := (5, [(0, .ref m0), (1, .int (nI l.length)), (2, .int 7), (3, .int 0)], [], M)) rfl rfl rfl ?_
  exact (LL kf).1 (0) M I R hR hEI hER hY hU (by omega)
set_option maxHeartbeats 1000000 in
theorem rd_symbolS {g : xe_G} {m0 : Nat} {q : Nat → Nat} {z : Nat × Nat} {I : rI} {R : rR} {M : mi_H} {tx : List (List Nat)} {cN : Nat} {A : Nat → Nat} {lk : Nat} (hR : RS g m0 q z I R M)  (hY : SYT tx cN A I R) (hlk : rlk lk) : pt (mT g) 246 [.ref m0, .ref (g.2.1 lk)] M (fun v M' => (∃ (tx2 : List (List Nat)) (cN2 : Nat) (A2 : Nat → Nat) (x : Nat) (I' : rI) (R' : rR), (x < tx2.length ∧ tx2.getD x [] = ltx lk) ∧ (tx.length ≤ tx2.length ∧ ∀ s, s < tx.length → tx2.getD s [] = tx.getD s []) ∧ v = some (.int (nI x)) ∧ RS g m0 q z I' R' M' ∧ eqI [3, 8] I I' ∧ eqR [1, 2, 4, 5, 6, 7] R R' ∧ SYT tx2 cN2 A2 I' R')) := by
  refine pt_in (b := mb_246 g) rfl (fun kf => ?_)
  show pl (mT g) kf (mb_246 g).2 (0, [(0, .ref m0), (1, .ref (g.2.1 lk))], [], M) _
  have hEI : eqI [3, 8] I I := eqI.rf
  have hER : eqR [1, 2, 4, 5, 6, 7] R R := eqR.rf
  have hle := lt_len lk hlk
  have hln := ltx_len lk
  have LL : ∀ (kf : Nat), (∀ (k : Nat) (M1 : mi_H) (I1 : rI) (R1 : rR), (RS g m0 q z I1 R1 M1) → (eqI [3, 8] I I1) → (eqR [1, 2, 4, 5, 6, 7] R R1) → (SYT tx cN A I1 R1) → (CUW (ltx lk) k I1 R1) → (k ≤ (xe_lt lk).2.2.2.length) →  pl (mT g) kf (mb_246 g).2 (2, [(0, .ref m0), (1, .ref (g.2.1 lk)), (2, .int (nI k))], [], M1) (fun v M' => (∃ (tx2 : List (List Nat)) (cN2 : Nat) (A2 : Nat → Nat) (x : Nat) (I' : rI) (R' : rR), (x < tx2.length ∧ tx2.getD x [] = ltx lk) ∧ (tx.length ≤ tx2.length ∧ ∀ s, s < tx.length → tx2.getD s [] = tx.getD s []) ∧ v = some (.int (nI x)) ∧ RS g m0 q z I' R' M' ∧ eqI [3, 8] I I' ∧ eqR [1, 2, 4, 5, 6, 7] R R' ∧ SYT tx2 cN2 A2 I' R'))) := by
    intro kf
    induction kf with
    | zero => exact (by intros; exact pl_0)
    | succ kf ih =>
      intro k M1 I1 R1 hR1 hEI1 hER1 hY1 hU1 hk
      have hle := lt_len lk hlk
      have hln := ltx_len lk
      refine ps_st1 (S' := (3, [(0, .ref m0), (1, .ref (g.2.1 lk)), (2, .int (nI k))], [.int (nI k)], M1)) rfl rfl rfl ?_
      refine ps_st (S' := (4, [(0, .ref m0), (1, .ref (g.2.1 lk)), (2, .int (nI k))], [.ref (g.2.1 lk), .int (nI k)], M1)) rfl rfl rfl ?_
      refine pr_slen (lk := lk) (S' := (7, [(0, .ref m0), (1, .ref (g.2.1 lk)), (2, .int (nI k))], [.int (nI (xe_lt lk).2.2.2.length), .int (nI k)], M1)) rfl hR1 (hlk) rfl rfl ?_
      refine ps_if2 (S1 := (27, [(0, .ref m0), (1, .ref (g.2.1 lk)), (2, .int (nI k))], [], M1)) (S2 := (10, [(0, .ref m0), (1, .ref (g.2.1 lk)), (2, .int (nI k))], [], M1)) rfl rfl rfl (fun c_7 => ?_) (fun c_7 => ?_)
      · have c_7 : (nI (xe_lt lk).2.2.2.length) ≤ (nI k) := of_decide_eq_true c_7
        have n_7 : (xe_lt lk).2.2.2.length ≤ k := (le_nI (p := (xe_lt lk).2.2.2.length) (n := k) (by omega) (by omega)).mp c_7
        refine ps_st (S' := (28, [(0, .ref m0), (1, .ref (g.2.1 lk)), (2, .int (nI k))], [.ref m0], M1)) rfl rfl rfl ?_
        refine ps_st (S' := (29, [(0, .ref m0), (1, .ref (g.2.1 lk)), (2, .int (nI k))], [.ref (g.2.1 lk), .ref m0], M1)) rfl rfl rfl ?_
        refine pr_slen (lk := lk) (S' := (32, [(0, .ref m0), (1, .ref (g.2.1 lk)), (2, .int (nI k))], [.int (nI (xe_lt lk).2.2.2.length), .ref m0], M1)) rfl hR1 (hlk) rfl rfl ?_
        have ek : k = (ltx lk).length := by omega
        have hU9 := hU1
        rw [ek] at hU9
        rw [show (xe_lt lk).2.2.2.length = (ltx lk).length from hln.symm]
        refine pl_call (a := [.ref m0, .int (nI (ltx lk).length)]) (rest := []) rfl rfl rfl (rd_symbol (tx := tx) (cN := cN) (A := A) (l := (ltx lk)) hR1 hY1 hU9 (by omega)) (fun v1 M2 q3 => ?_)
        obtain ⟨tx24, cN25, A26, x7, I8, R9, q32_x, q32_k, rfl, hR10, hI11, hX12, hY_13⟩ := q3
        have hU_14 := hU9.mono (cIx hI11 (by decide)) (cRx hX12 (by decide))
        have hEI15 := hEI1.tr hI11 (by decide)
        have hER16 := hER1.tr hX12 (by decide)
        show pl _ _ _ (35, [(0, .ref m0), (1, .ref (g.2.1 lk)), (2, .int (nI k))], [.int (nI x7)], M2) _
        exact ps_reti rfl (⟨tx24, cN25, A26, x7, I8, R9, q32_x, q32_k, rfl, hR10, hEI15, hER16, hY_13⟩)
      · have c_7 : ¬ ((nI (xe_lt lk).2.2.2.length) ≤ (nI k)) := of_decide_eq_false c_7
        have n_7 : ¬ ((xe_lt lk).2.2.2.length ≤ k) := fun h9 => c_7 ((le_nI (p := (xe_lt lk).2.2.2.length) (n := k) (by omega) (by omega)).mpr h9)
        refine ps_st (S' := (11, [(0, .ref m0), (1, .ref (g.2.1 lk)), (2, .int (nI k))], [.ref m0], M1)) rfl rfl rfl ?_
        refine pr_ref (j := 2) (S' := (14, [(0, .ref m0), (1, .ref (g.2.1 lk)), (2, .int (nI k))], [.ref (q 2)], M1)) rfl hR1 rfl rfl ?_
        refine ps_st (S' := (15, [(0, .ref m0), (1, .ref (g.2.1 lk)), (2, .int (nI k))], [.int (nI k), .ref (q 2)], M1)) rfl rfl rfl ?_
        refine ps_st (S' := (16, [(0, .ref m0), (1, .ref (g.2.1 lk)), (2, .int (nI k))], [.ref (g.2.1 lk), .int (nI k), .ref (q 2)], M1)) rfl rfl rfl ?_
        refine ps_st (S' := (17, [(0, .ref m0), (1, .ref (g.2.1 lk)), (2, .int (nI k))], [.int (nI k), .ref (g.2.1 lk), .int (nI k), .ref (q 2)], M1)) rfl rfl rfl ?_
        refine pr_schar (lk := lk) (j := k) (S' := (20, [(0, .ref m0), (1, .ref (g.2.1 lk)), (2, .int (nI k))], [.int (nI ((ltx lk).getD k 0)), .int (nI k), .ref (q 2)], M1)) rfl hR1 (hlk) (by omega) rfl ?_
        refine pr_st (a := 2) (j := k) rfl hR1 rfl (by omega) (fun M17 R18 i1_20 hR19 hS20 => ?_)
        have hY_21 := hY1.mono (fun _ _ => rfl) (rRx hS20 (by decide))
        have hER22 := hER1.st hS20 (by decide)
        show pl _ _ _ (21, [(0, .ref m0), (1, .ref (g.2.1 lk)), (2, .int (nI k))], [], M17) _
        have hU_23 := hU1.snoc hS20 rfl (ltx_ch7 lk hlk k)
        refine ps_st (S' := (24, [(2, .int ((nI k) + 1)), (0, .ref m0), (1, .ref (g.2.1 lk))], [], M17)) rfl rfl rfl ?_
        rw [nI_add1 (p := k) (k := 1) (x := 1) rfl (by omega)]
        show pl _ _ _ (_, [(2, .int (nI (k + 1))), (0, .ref m0), (1, .ref (g.2.1 lk))], [], M17) _
        refine ps_st (S' := (2, [(0, .ref m0), (1, .ref (g.2.1 lk)), (2, .int (nI (k + 1)))], [], M17)) rfl rfl rfl ?_
        exact ih (k + 1) M17 I1 R18 hR19 hEI1 hER22 hY_21 hU_23 (by omega)
  refine ps_st (S' := (1, [(0, .ref m0), (1, .ref (g.2.1 lk))], [.int 0], M)) rfl rfl rfl ?_
  refine ps_st (S' := (2, [(0, .ref m0), (1, .ref (g.2.1 lk)), (2, .int 0)], [], M)) rfl rfl rfl ?_
  exact (LL kf) (0) M I R hR hEI hER hY CUW.nil (by omega)
end
section
/-! the reference clears its table, reads texts and the pool (laid by wip/p4/e3.py) -/
/-! the reference reads texts and the pool (my own text) -/
section PRA
theorem cont_eq {f : Nat → Int32} {q : Nat} : f q &&& 192 = nI (aN (by1 f q) 192) := by
  rw [← nI_an (p := by1 f q) (k := 192) (x := 192) rfl, ← by1_eq, Int32.and_assoc]
  rfl
theorem cont_iff {f : Nat → Int32} {q : Nat} : f q &&& 192 = 128 ↔ aN (by1 f q) 192 = 128 := by
  rw [cont_eq]
  have h := an_le (by1 f q) 192
  exact eq_nI (p := aN (by1 f q) 192) (n := 128) (by omega) (by decide)
theorem u8k_0 {f : Nat → Int32} {e p : Nat} (h : by1 f p = 0 ∨ 240 ≤ by1 f p ∨ (128 ≤ by1 f p ∧ by1 f p ≤ 191)) : u8k f e p = 0 := by
  unfold u8k
  by_cases h1 : by1 f p < 128
  · rw [if_pos h1, if_pos (by omega)]
  · rw [if_neg h1]
    by_cases h2 : by1 f p < 192
    · rw [if_pos h2]
    · rw [if_neg h2, if_pos (by omega)]
/-- b: bytes that follow the first -/
def moN (x : Nat) : Nat := if x < 128 then 0 else if x < 224 then 1 else 2
theorem u8k_bad {f : Nat → Int32} {e p i : Nat} (h : ¬ (by1 f p = 0 ∨ 240 ≤ by1 f p ∨ (128 ≤ by1 f p ∧ by1 f p ≤ 191))) (hi : 1 ≤ i ∧ i ≤ moN (by1 f p)) (hok : ∀ j, 1 ≤ j → j < i → p + j < e ∧ aN (by1 f (p + j)) 192 = 128) (hb : ¬ (p + i < e ∧ aN (by1 f (p + i)) 192 = 128)) : u8k f e p = 0 := by
  unfold moN at hi
  unfold u8k
  have h1 : ¬ by1 f p < 128 := by
    intro h9
    rw [if_pos h9] at hi
    omega
  rw [if_neg h1] at hi
  rw [if_neg h1, if_neg (by omega), if_neg (by omega)]
  by_cases e1 : i = 1
  · subst e1
    rw [if_pos (by rw [cont_iff]; exact hb)]
  · have h2 := hok 1 (by omega) (by omega)
    rw [if_neg (by rw [cont_iff]; exact fun h9 => h9 h2)]
    by_cases h3 : by1 f p < 224
    · rw [if_pos h3] at hi
      omega
    · rw [if_neg h3] at hi
      have e2 : i = 2 := by omega
      subst e2
      rw [if_neg h3, if_neg (by rw [cont_iff]; exact hb)]
theorem u8k_ok {f : Nat → Int32} {e p : Nat} (h : ¬ (by1 f p = 0 ∨ 240 ≤ by1 f p ∨ (128 ≤ by1 f p ∧ by1 f p ≤ 191))) (hok : ∀ j, 1 ≤ j → j ≤ moN (by1 f p) → p + j < e ∧ aN (by1 f (p + j)) 192 = 128) : u8k f e p = moN (by1 f p) + 1 := by
  unfold moN at hok ⊢
  unfold u8k
  by_cases h1 : by1 f p < 128
  · rw [if_pos h1, if_neg (by omega), if_pos h1]
  · rw [if_neg h1] at hok ⊢
    rw [if_neg h1, if_neg (by omega), if_neg (by omega)]
    have h2 := hok 1 (by omega) (by split <;> omega)
    rw [if_neg (by rw [cont_iff]; exact fun h9 => h9 h2)]
    by_cases h3 : by1 f p < 224
    · rw [if_pos h3, if_pos h3]
    · rw [if_neg h3] at hok
      rw [if_neg h3, if_neg h3, if_pos (by rw [cont_iff]; exact hok 2 (by decide) (by decide))]
theorem CUW.snocL {I : rI} {R R' : rR} {l : List Nat} {x : Nat} (h : CUW l l.length I R) (hR : R' = rset R 2 l.length (vp_nar .char (nI x))) (hc : x < 65536) : CUW (l ++ [x]) (l.length + 1) I R' := fun i hi => by
  subst hR
  by_cases e : i = l.length
  · subst e
    rw [rset_at, nar_char hc, getD_at]
    exact ⟨rfl, hc⟩
  · rw [rset_el e, getD_lo (by omega)]
    exact h i (by omega)
end PRA
section PRB
variable {f : Nat → Int32} {n mj N k p : Nat}
theorem ent_0 (h : n < p + 1) : s_entry f n mj N k p = .inl (1, p) := by
  unfold s_entry
  rw [if_pos h]
theorem ent_5 (h : ¬ n < p + 1) (ht : ¬ tgOk mj (by1 f p)) : s_entry f n mj N k p = .inl (5, p) := by
  unfold s_entry
  rw [if_neg h, if_pos ht]
theorem ent_7 (h : ¬ n < p + 1) (ht : tgOk mj (by1 f p)) (hw : (by1 f p = 5 ∨ by1 f p = 6) ∧ N ≤ k + 1) : s_entry f n mj N k p = .inl (7, p) := by
  unfold s_entry
  rw [if_neg h, if_neg (fun h9 => h9 ht), if_pos hw]
theorem ent_1 (h : ¬ n < p + 1) (ht : tgOk mj (by1 f p)) (h1 : by1 f p = 1) : s_entry f n mj N k p = match s_utf f n (p + 1) with
    | .inl e => .inl e
    | .inr l => .inr (p + 3 + by2 f (p + 1), .inl l) := by
  unfold s_entry
  rw [if_neg h, if_neg (fun h9 => h9 ht), if_neg (by omega), if_pos h1]
  rfl
theorem ent_4 (h : ¬ n < p + 1) (ht : tgOk mj (by1 f p)) (h1 : by1 f p = 3 ∨ by1 f p = 4) : s_entry f n mj N k p = if n < p + 5 then .inl (1, p + 1) else .inr (p + 5, .inr none) := by
  unfold s_entry
  rw [if_neg h, if_neg (fun h9 => h9 ht), if_neg (by omega), if_neg (by omega), if_pos h1]
theorem ent_8 (h : ¬ n < p + 1) (ht : tgOk mj (by1 f p)) (h1 : by1 f p = 5 ∨ by1 f p = 6) (hw : ¬ N ≤ k + 1) : s_entry f n mj N k p = if n < p + 5 then .inl (1, p + 1) else if n < p + 9 then .inl (1, p + 5) else .inr (p + 9, .inr none) := by
  unfold s_entry
  rw [if_neg h, if_neg (fun h9 => h9 ht), if_neg (by omega), if_neg (by omega), if_neg (by omega), if_pos h1]
theorem ent_x (h : ¬ n < p + 1) (ht : tgOk mj (by1 f p)) (h1 : ¬ (by1 f p = 1 ∨ by1 f p = 3 ∨ by1 f p = 4 ∨ by1 f p = 5 ∨ by1 f p = 6)) : s_entry f n mj N k p = match s_ix f n (by1 f p) (p + 1) with
    | .inl e => .inl e
    | .inr (p', x, y) => .inr (p', .inr (some (x, y))) := by
  unfold s_entry
  rw [if_neg h, if_neg (fun h9 => h9 ht), if_neg (by omega), if_neg (by omega), if_neg (by omega), if_neg (by omega)]
  rfl
theorem ix_15 {t : Nat} (ht : t = 15) : s_ix f n t p = if n < p + 1 then .inl (1, p) else if n < p + 3 then .inl (1, p + 1) else .inr (p + 3, by1 f p, by2 f (p + 1)) := by
  unfold s_ix
  rw [if_pos ht]
theorem ix_1 {t : Nat} (ht : t = 7 ∨ t = 8 ∨ t = 16 ∨ t = 19 ∨ t = 20) : s_ix f n t p = if n < p + 2 then .inl (1, p) else .inr (p + 2, by2 f p, 0) := by
  unfold s_ix
  rw [if_neg (by omega), if_pos ht]
theorem ix_2 {t : Nat} (ht : ¬ (t = 15 ∨ t = 7 ∨ t = 8 ∨ t = 16 ∨ t = 19 ∨ t = 20)) : s_ix f n t p = if n < p + 2 then .inl (1, p) else if n < p + 4 then .inl (1, p + 2) else .inr (p + 4, by2 f p, by2 f (p + 2)) := by
  unfold s_ix
  rw [if_neg (by omega), if_neg (show ¬ (t = 7 ∨ t = 8 ∨ t = 16 ∨ t = 19 ∨ t = 20) by omega)]
end PRB
section PRC
variable {f : Nat → Int32} {n : Nat} {E : List (Nat × Nat)} {tx : List (List Nat)} {I I' : rI} {R R' : rR}
theorem lk_ap {k p : Nat} (hE : ∀ q ∈ E, 1 ≤ q.1 ∧ q.1 < k) (j : Nat) : lk (E ++ [(k, p)]) j = if j = k then some p else lk E j := by
  induction E with
  | nil =>
    show (if k = j then some p else none) = _
    by_cases h : j = k
    · rw [if_pos h, if_pos h.symm]
    · rw [if_neg h, if_neg (Ne.symm h)]
      rfl
  | cons a r ih =>
    have h1 := hE a List.mem_cons_self
    have h2 := ih (fun q hq => hE q (List.mem_cons_of_mem _ hq))
    show (if a.1 = j then some a.2 else lk (r ++ [(k, p)]) j) = if j = k then some p else (if a.1 = j then some a.2 else lk r j)
    rw [h2]
    by_cases h : j = k
    · rw [if_pos h, if_neg (by omega), if_pos h]
    · rw [if_neg h, if_neg h]
theorem lk_hi {k j : Nat} (hE : ∀ q ∈ E, 1 ≤ q.1 ∧ q.1 < k) (hj : j = 0 ∨ k ≤ j) : lk E j = none := by
  cases h : lk E j with
  | none => rfl
  | some p =>
    have := hE _ (lk_in h)
    omega
def plI (o : Option Nat) : Int32 := match o with
  | none => -1
  | some p => nI p
/-- a text's number -/
def smC (f : Nat → Int32) (n : Nat) (tx : List (List Nat)) (R : rR) (j p : Nat) : Prop := by1 f p = 1 → ∃ s, R 22 j = some (nI s) ∧ s < tx.length ∧ tx.getD s [] = txo (s_utf f n (p + 1))
/-- the entries ahead of number k, as the reference keeps them -/
def RPV (f : Nat → Int32) (n : Nat) (E : List (Nat × Nat)) (tx : List (List Nat)) (k : Nat) (I : rI) (R : rR) : Prop :=
  (∀ q ∈ E, 1 ≤ q.1 ∧ q.1 < k) ∧ (∀ j, j < k → R 21 j = some (plI (lk E j))) ∧ ∀ j p, lk E j = some p → smC f n tx R j p
theorem RPV.mono {k : Nat} (h : RPV f n E tx k I R) (hI : ∀ k, k ∈ ([] : List Nat) → I' k = I k) (hR : ∀ k, k ∈ [21, 22] → R' k = R k) : RPV f n E tx k I' R' := by
  refine ⟨h.1, fun j hj => ?_, fun j p hp h1 => ?_⟩
  · rw [hR 21 (by decide)]
    exact h.2.1 j hj
  · rw [hR 22 (by decide)]
    exact h.2.2 j p hp h1
theorem RPV.txs {k : Nat} {tx2 : List (List Nat)} (h : RPV f n E tx k I R) (hk : tx.length ≤ tx2.length ∧ ∀ s, s < tx.length → tx2.getD s [] = tx.getD s []) : RPV f n E tx2 k I R :=
  ⟨h.1, h.2.1, fun j p hp h1 => by
    obtain ⟨s, a, b, c⟩ := h.2.2 j p hp h1
    exact ⟨s, a, by omega, by rw [hk.2 s b]; exact c⟩⟩
theorem RPV.w21 {k j : Nat} {x : Int32} (h : RPV f n E tx k I R) (hR : R' = rset R 21 j x) (hj : k ≤ j) : RPV f n E tx k I R' := by
  subst hR
  refine ⟨h.1, fun i hi => ?_, fun i p hp h1 => ?_⟩
  · rw [rset_el (by omega)]
    exact h.2.1 i hi
  · rw [rset_ne (by decide)]
    exact h.2.2 i p hp h1
theorem RPV.w22 {k j : Nat} {x : Int32} (h : RPV f n E tx k I R) (hR : R' = rset R 22 j x) (hj : k ≤ j) : RPV f n E tx k I R' := by
  subst hR
  refine ⟨h.1, fun i hi => ?_, fun i p hp h1 => ?_⟩
  · rw [rset_ne (by decide)]
    exact h.2.1 i hi
  · have := h.1 _ (lk_in hp)
    rw [rset_el (by show ¬ i = j; have : i < k := this.2; omega)]
    exact h.2.2 i p hp h1
/-- an entry that is being read -/
def RPE (f : Nat → Int32) (n : Nat) (E : List (Nat × Nat)) (tx : List (List Nat)) (k p : Nat) (I : rI) (R : rR) : Prop := RPV f n E tx k I R ∧ R 21 k = some (nI p) ∧ smC f n tx R k p
def RPD (f : Nat → Int32) (n : Nat) (E : List (Nat × Nat)) (tx : List (List Nat)) (k p : Nat) (I : rI) (R : rR) : Prop := RPV f n E tx k I R ∧ R 21 k = some (nI p)
theorem RPD.mono {k p : Nat} (h : RPD f n E tx k p I R) (hI : ∀ k, k ∈ ([] : List Nat) → I' k = I k) (hR : ∀ k, k ∈ [21, 22] → R' k = R k) : RPD f n E tx k p I' R' :=
  ⟨h.1.mono hI hR, by rw [hR 21 (by decide)]; exact h.2⟩
theorem RPE.mono {k p : Nat} (h : RPE f n E tx k p I R) (hI : ∀ k, k ∈ ([] : List Nat) → I' k = I k) (hR : ∀ k, k ∈ [21, 22] → R' k = R k) : RPE f n E tx k p I' R' :=
  ⟨h.1.mono hI hR, by rw [hR 21 (by decide)]; exact h.2.1, fun h1 => by rw [hR 22 (by decide)]; exact h.2.2 h1⟩
theorem RPV.ent {k p : Nat} (h : RPV f n E tx k I R) (hR : R' = rset R 21 k (nI p)) : RPD f n E tx k p I R' := ⟨h.w21 hR (Nat.le_refl _), by rw [hR, rset_at]⟩
theorem RPD.w22 {k p : Nat} {x : Int32} (h : RPD f n E tx k p I R) (hR : R' = rset R 22 k x) : RPD f n E tx k p I R' := ⟨h.1.w22 hR (Nat.le_refl _), by rw [hR, rset_ne (by decide)]; exact h.2⟩
theorem RPD.no {k p : Nat} (h : RPD f n E tx k p I R) (hp : ¬ by1 f p = 1) : RPE f n E tx k p I R := ⟨h.1, h.2, fun h1 => absurd h1 hp⟩
theorem RPD.sy {k p x : Nat} {tx2 : List (List Nat)} {l : List Nat} (h : RPD f n E tx k p I R) (hk : tx.length ≤ tx2.length ∧ ∀ s, s < tx.length → tx2.getD s [] = tx.getD s []) (h21 : R' 21 = R 21) (h22 : ∀ i, ¬ i = k → R' 22 i = R 22 i) (hx : R' 22 k = some (nI x)) (hl : x < tx2.length ∧ tx2.getD x [] = l) (hu : s_utf f n (p + 1) = .inr l) : RPE f n E tx2 k p I' R' := by
  obtain ⟨h1, h2⟩ := h
  have h3 := h1.txs hk
  refine ⟨⟨h3.1, fun j hj => by rw [h21]; exact h3.2.1 j hj, fun j p' hp' hb => ?_⟩, by rw [h21]; exact h2, fun _ => ⟨x, hx, hl.1, ?_⟩⟩
  · have := h3.1 _ (lk_in hp')
    rw [h22 j (by show ¬ j = k; have : j < k := this.2; omega)]
    exact h3.2.2 j p' hp' hb
  · rw [hl.2, hu]
    rfl
theorem RPE.next {k p : Nat} (h : RPE f n E tx k p I R) (hk : 1 ≤ k) : RPV f n (E ++ [(k, p)]) tx (k + 1) I R := by
  obtain ⟨⟨h1, h2, h3⟩, h4, h5⟩ := h
  refine ⟨fun q hq => ?_, fun j hj => ?_, fun j p' hp' => ?_⟩
  · rcases List.mem_append.mp hq with hq | hq
    · have := h1 q hq
      omega
    · have e : q = (k, p) := by simpa using hq
      rw [e]
      show 1 ≤ k ∧ k < k + 1
      omega
  · rw [lk_ap h1]
    by_cases e : j = k
    · rw [if_pos e, e]
      exact h4
    · rw [if_neg e]
      exact h2 j (by omega)
  · rw [lk_ap h1] at hp'
    by_cases e : j = k
    · rw [if_pos e] at hp'
      cases hp'
      rw [e]
      exact h5
    · rw [if_neg e] at hp'
      exact h3 j p' hp'
theorem RPV.skip {k : Nat} (h : RPV f n E tx k I R) (hR : R' = rset R 21 k (-1)) (hk : 1 ≤ k) : RPV f n E tx (k + 1) I R' := by
  have h9 := h.w21 hR (Nat.le_refl _)
  refine ⟨fun q hq => by have := h.1 q hq; omega, fun j hj => ?_, h9.2.2⟩
  by_cases e : j = k
  · subst e
    rw [hR, rset_at, lk_hi h.1 (Or.inr (Nat.le_refl _))]
    rfl
  · exact h9.2.1 j (by omega)
theorem RPV.one (h : R 21 0 = some (-1)) : RPV f n [] tx 1 I R := by
  refine ⟨fun q hq => ?_, fun j hj => ?_, fun j p hp => ?_⟩
  · cases hq
  · have e : j = 0 := by omega
    subst e
    exact h
  · cases hp
end PRC
theorem SYT.nil {I : rI} {R : rR} (h8 : I 8 = some 0) (h3 : I 3 = some 0) (h : ∀ h, h < 4096 → R 7 h = some (-1)) : SYT [] 0 (fun _ => 0) I R := by
  refine ⟨⟨h8, h3, by decide, by decide⟩, fun s hs => ?_, fun s hs => ?_, h, fun s t hs => ?_⟩
  · cases hs
  · cases hs
  · cases hs
def K22 (F : Nat → Option Int32) (I : rI) (R : rR) : Prop := R 22 = F
theorem K22.mono {F : Nat → Option Int32} {I I' : rI} {R R' : rR} (h : K22 F I R) (hI : ∀ k, k ∈ ([] : List Nat) → I' k = I k) (hR : ∀ k, k ∈ [22] → R' k = R k) : K22 F I' R' := (hR 22 (by decide)).trans h
def FIL (k : Nat) (I : rI) (R : rR) : Prop := ∀ h, h < k → R 7 h = some (-1)
theorem FIL.mono {k : Nat} {I I' : rI} {R R' : rR} (h : FIL k I R) (hI : ∀ k, k ∈ ([] : List Nat) → I' k = I k) (hR : ∀ k, k ∈ [7] → R' k = R k) : FIL k I' R' := fun i hi => by
  rw [hR 7 (by decide)]
  exact h i hi
theorem FIL.nil {I : rI} {R : rR} : FIL 0 I R := fun i hi => by omega
theorem FIL.snoc {k : Nat} {I : rI} {R R' : rR} (h : FIL k I R) (hR : R' = rset R 7 k (-1)) : FIL (k + 1) I R' := fun i hi => by
  subst hR
  by_cases e : i = k
  · subst e
    rw [rset_at]
  · rw [rset_el e]
    exact h i (by omega)

theorem moN_le (x : Nat) : moN x ≤ 2 := by unfold moN; repeat' split
                                           all_goals omega
set_option maxHeartbeats 1000000 in
theorem rd_clear {g : xe_G} {m0 : Nat} {q : Nat → Nat} {z : Nat × Nat} {I : rI} {R : rR} {M : mi_H}  (hR : RS g m0 q z I R M)    : pt (mT g) 195 [.ref m0] M (fun v M' => (∃ (tx : List (List Nat)) (cN : Nat) (A : Nat → Nat) (s1 s2 s3 : Nat) (I' : rI) (R' : rR), (s1 < tx.length ∧ tx.getD s1 [] = ltx 25 ∧ s2 < tx.length ∧ tx.getD s2 [] = ltx 26 ∧ s3 < tx.length ∧ tx.getD s3 [] = ltx 27) ∧ v = none ∧ RS g m0 q z I' R' M' ∧ eqI [3, 8, 9, 10, 11, 20, 25, 26] I I' ∧ eqR [1, 2, 4, 5, 6, 7] R R' ∧ I' 9 = some (nI s1) ∧ I' 10 = some (nI s2) ∧ I' 11 = some (nI s3) ∧ I' 20 = some 0 ∧ I' 25 = some 0 ∧ I' 26 = some 0 ∧ SYT tx cN A I' R')) := by
  refine pt_in (b := mb_195 g) rfl (fun kf => ?_)
  show pl (mT g) kf (mb_195 g).2 (0, [(0, .ref m0)], [], M) _
  have hEI : eqI [3, 8, 9, 10, 11, 20, 25, 26] I I := eqI.rf
  have hER : eqR [1, 2, 4, 5, 6, 7] R R := eqR.rf
  have LL : ∀ (kf : Nat), (∀ (k : Nat) (M1 : mi_H) (I1 : rI) (R1 : rR), (RS g m0 q z I1 R1 M1) → (eqI [3, 8, 9, 10, 11, 20, 25, 26] I I1) → (eqR [1, 2, 4, 5, 6, 7] R R1) → (I1 3 = some 0) → (I1 8 = some 0) → (FIL k I1 R1) → (k ≤ 4096) →  pl (mT g) kf (mb_195 g).2 (12, [(0, .ref m0), (1, .int (nI k))], [], M1) (fun v M' => (∃ (tx : List (List Nat)) (cN : Nat) (A : Nat → Nat) (s1 s2 s3 : Nat) (I' : rI) (R' : rR), (s1 < tx.length ∧ tx.getD s1 [] = ltx 25 ∧ s2 < tx.length ∧ tx.getD s2 [] = ltx 26 ∧ s3 < tx.length ∧ tx.getD s3 [] = ltx 27) ∧ v = none ∧ RS g m0 q z I' R' M' ∧ eqI [3, 8, 9, 10, 11, 20, 25, 26] I I' ∧ eqR [1, 2, 4, 5, 6, 7] R R' ∧ I' 9 = some (nI s1) ∧ I' 10 = some (nI s2) ∧ I' 11 = some (nI s3) ∧ I' 20 = some 0 ∧ I' 25 = some 0 ∧ I' 26 = some 0 ∧ SYT tx cN A I' R'))) := by
    intro kf
    induction kf with
    | zero => exact (by intros; exact pl_0)
    | succ kf ih =>
      intro k M1 I1 R1 hR1 hEI1 hER1 hl3 hl8 hL1 hk
      refine ps_st1 (S' := (13, [(0, .ref m0), (1, .int (nI k))], [.int (nI k)], M1)) rfl rfl rfl ?_
      refine ps_st (S' := (16, [(0, .ref m0), (1, .int (nI k))], [.int 4096, .int (nI k)], M1)) rfl rfl rfl ?_
      refine ps_if2 (S1 := (32, [(0, .ref m0), (1, .int (nI k))], [], M1)) (S2 := (19, [(0, .ref m0), (1, .int (nI k))], [], M1)) rfl rfl rfl (fun c_16 => ?_) (fun c_16 => ?_)
      · have c_16 : 4096 ≤ (nI k) := of_decide_eq_true c_16
        have n_16 : 4096 ≤ k := (le_nI (p := 4096) (n := k) (by decide) (by omega)).mp c_16
        have ek : k = 4096 := by omega
        have hL9 := hL1
        rw [ek] at hL9
        have hY_1 := SYT.nil hl8 hl3 hL9
        refine ps_st (S' := (33, [(0, .ref m0), (1, .int (nI k))], [.ref m0], M1)) rfl rfl rfl ?_
        refine ps_st (S' := (34, [(0, .ref m0), (1, .int (nI k))], [.ref m0, .ref m0], M1)) rfl rfl rfl ?_
        refine ps_st (S' := (36, [(0, .ref m0), (1, .int (nI k))], [.ref (g.2.1 25), .ref m0, .ref m0], M1)) rfl rfl rfl ?_
        refine pl_call (a := [.ref m0, .ref (g.2.1 25)]) (rest := [.ref m0]) rfl rfl rfl (rd_symbolS (tx := []) (cN := 0) (A := (fun _ => 0)) (lk := 25) hR1 hY_1 (⟨by decide, by decide⟩)) (fun v2 M3 q4 => ?_)
        obtain ⟨tx25, cN26, A27, x8, I9, R10, q36_x, q36_k, rfl, hR11, hI12, hX13, hY_14⟩ := q4
        have hEI15 := hEI1.tr hI12 (by decide)
        have hER16 := hER1.tr hX13 (by decide)
        show pl _ _ _ (39, [(0, .ref m0), (1, .int (nI k))], [.int (nI x8), .ref m0], M3) _
        refine pr_put (j := 9) rfl hR11 rfl (fun M17 I18 hR19 hi20 hI21 => ?_)
        have hY_22 := hY_14.mono (pIx hI21 (by decide)) (fun _ _ => rfl)
        have hEI23 := hEI15.put hI21 (by decide)
        show pl _ _ _ (42, [(0, .ref m0), (1, .int (nI k))], [], M17) _
        refine ps_st (S' := (43, [(0, .ref m0), (1, .int (nI k))], [.ref m0], M17)) rfl rfl rfl ?_
        refine ps_st (S' := (44, [(0, .ref m0), (1, .int (nI k))], [.ref m0, .ref m0], M17)) rfl rfl rfl ?_
        refine ps_st (S' := (46, [(0, .ref m0), (1, .int (nI k))], [.ref (g.2.1 26), .ref m0, .ref m0], M17)) rfl rfl rfl ?_
        refine pl_call (a := [.ref m0, .ref (g.2.1 26)]) (rest := [.ref m0]) rfl rfl rfl (rd_symbolS (tx := tx25) (cN := cN26) (A := A27) (lk := 26) hR19 hY_22 (⟨by decide, by decide⟩)) (fun v24 M25 q26 => ?_)
        obtain ⟨tx227, cN228, A229, x30, I31, R32, q46_x, q46_k, rfl, hR33, hI34, hX35, hY_36⟩ := q26
        have hi37 := (hI34 9 (by decide)).trans hi20
        have hEI38 := hEI23.tr hI34 (by decide)
        have hER39 := hER16.tr hX35 (by decide)
        show pl _ _ _ (49, [(0, .ref m0), (1, .int (nI k))], [.int (nI x30), .ref m0], M25) _
        refine pr_put (j := 10) rfl hR33 rfl (fun M40 I41 hR42 hi43 hI44 => ?_)
        have hi45 := (hI44 9 (by decide)).trans hi37
        have hY_46 := hY_36.mono (pIx hI44 (by decide)) (fun _ _ => rfl)
        have hEI47 := hEI38.put hI44 (by decide)
        show pl _ _ _ (52, [(0, .ref m0), (1, .int (nI k))], [], M40) _
        refine ps_st (S' := (53, [(0, .ref m0), (1, .int (nI k))], [.ref m0], M40)) rfl rfl rfl ?_
        refine ps_st (S' := (54, [(0, .ref m0), (1, .int (nI k))], [.ref m0, .ref m0], M40)) rfl rfl rfl ?_
        refine ps_st (S' := (56, [(0, .ref m0), (1, .int (nI k))], [.ref (g.2.1 27), .ref m0, .ref m0], M40)) rfl rfl rfl ?_
        refine pl_call (a := [.ref m0, .ref (g.2.1 27)]) (rest := [.ref m0]) rfl rfl rfl (rd_symbolS (tx := tx227) (cN := cN228) (A := A229) (lk := 27) hR42 hY_46 (⟨by decide, by decide⟩)) (fun v48 M49 q50 => ?_)
        obtain ⟨tx251, cN252, A253, x54, I55, R56, q56_x, q56_k, rfl, hR57, hI58, hX59, hY_60⟩ := q50
        have hi61 := (hI58 9 (by decide)).trans hi45
        have hi62 := (hI58 10 (by decide)).trans hi43
        have hEI63 := hEI47.tr hI58 (by decide)
        have hER64 := hER39.tr hX59 (by decide)
        show pl _ _ _ (59, [(0, .ref m0), (1, .int (nI k))], [.int (nI x54), .ref m0], M49) _
        refine pr_put (j := 11) rfl hR57 rfl (fun M65 I66 hR67 hi68 hI69 => ?_)
        have hi70 := (hI69 9 (by decide)).trans hi61
        have hi71 := (hI69 10 (by decide)).trans hi62
        have hY_72 := hY_60.mono (pIx hI69 (by decide)) (fun _ _ => rfl)
        have hEI73 := hEI63.put hI69 (by decide)
        show pl _ _ _ (62, [(0, .ref m0), (1, .int (nI k))], [], M65) _
        refine ps_st (S' := (63, [(0, .ref m0), (1, .int (nI k))], [.ref m0], M65)) rfl rfl rfl ?_
        refine ps_st (S' := (64, [(0, .ref m0), (1, .int (nI k))], [.int 0, .ref m0], M65)) rfl rfl rfl ?_
        refine pr_put (j := 20) rfl hR67 rfl (fun M74 I75 hR76 hi77 hI78 => ?_)
        have hi79 := (hI78 9 (by decide)).trans hi70
        have hi80 := (hI78 10 (by decide)).trans hi71
        have hi81 := (hI78 11 (by decide)).trans hi68
        have hY_82 := hY_72.mono (pIx hI78 (by decide)) (fun _ _ => rfl)
        have hEI83 := hEI73.put hI78 (by decide)
        show pl _ _ _ (67, [(0, .ref m0), (1, .int (nI k))], [], M74) _
        refine ps_st (S' := (68, [(0, .ref m0), (1, .int (nI k))], [.ref m0], M74)) rfl rfl rfl ?_
        refine ps_st (S' := (69, [(0, .ref m0), (1, .int (nI k))], [.int 0, .ref m0], M74)) rfl rfl rfl ?_
        refine pr_put (j := 25) rfl hR76 rfl (fun M84 I85 hR86 hi87 hI88 => ?_)
        have hi89 := (hI88 9 (by decide)).trans hi79
        have hi90 := (hI88 10 (by decide)).trans hi80
        have hi91 := (hI88 11 (by decide)).trans hi81
        have hi92 := (hI88 20 (by decide)).trans hi77
        have hY_93 := hY_82.mono (pIx hI88 (by decide)) (fun _ _ => rfl)
        have hEI94 := hEI83.put hI88 (by decide)
        show pl _ _ _ (72, [(0, .ref m0), (1, .int (nI k))], [], M84) _
        refine ps_st (S' := (73, [(0, .ref m0), (1, .int (nI k))], [.ref m0], M84)) rfl rfl rfl ?_
        refine ps_st (S' := (74, [(0, .ref m0), (1, .int (nI k))], [.int 0, .ref m0], M84)) rfl rfl rfl ?_
        refine pr_put (j := 26) rfl hR86 rfl (fun M95 I96 hR97 hi98 hI99 => ?_)
        have hi100 := (hI99 9 (by decide)).trans hi89
        have hi101 := (hI99 10 (by decide)).trans hi90
        have hi102 := (hI99 11 (by decide)).trans hi91
        have hi103 := (hI99 20 (by decide)).trans hi92
        have hi104 := (hI99 25 (by decide)).trans hi87
        have hY_105 := hY_93.mono (pIx hI99 (by decide)) (fun _ _ => rfl)
        have hEI106 := hEI94.put hI99 (by decide)
        show pl _ _ _ (77, [(0, .ref m0), (1, .int (nI k))], [], M95) _
        have k2 := q46_k
        have k3 := q56_k
        exact ps_ret rfl rfl (⟨tx251, cN252, A253, x8, x30, x54, I96, R56, ⟨by have := q36_x.1; omega, by rw [k3.2 _ (by have := q36_x.1; omega), k2.2 _ q36_x.1]; exact q36_x.2, by have := q46_x.1; omega, by rw [k3.2 _ q46_x.1]; exact q46_x.2, q56_x.1, q56_x.2⟩, rfl, hR97, hEI106, hER64, hi100, hi101, hi102, hi103, hi104, hi98, hY_105⟩)
      · have c_16 : ¬ (4096 ≤ (nI k)) := of_decide_eq_false c_16
        have n_16 : ¬ (4096 ≤ k) := fun h9 => c_16 ((le_nI (p := 4096) (n := k) (by decide) (by omega)).mpr h9)
        refine ps_st (S' := (20, [(0, .ref m0), (1, .int (nI k))], [.ref m0], M1)) rfl rfl rfl ?_
        refine pr_ref (j := 7) (S' := (23, [(0, .ref m0), (1, .int (nI k))], [.ref (q 7)], M1)) rfl hR1 rfl rfl ?_
        refine ps_st (S' := (24, [(0, .ref m0), (1, .int (nI k))], [.int (nI k), .ref (q 7)], M1)) rfl rfl rfl ?_
        refine ps_st (S' := (25, [(0, .ref m0), (1, .int (nI k))], [.int (-1), .int (nI k), .ref (q 7)], M1)) rfl rfl rfl ?_
        refine pr_st (a := 7) (j := k) rfl hR1 rfl (by omega) (fun M107 R108 i1_25 hR109 hS110 => ?_)
        have hER111 := hER1.st hS110 (by decide)
        show pl _ _ _ (26, [(0, .ref m0), (1, .int (nI k))], [], M107) _
        have hL_112 := hL1.snoc hS110
        refine ps_st (S' := (29, [(1, .int ((nI k) + 1)), (0, .ref m0)], [], M107)) rfl rfl rfl ?_
        rw [nI_add1 (p := k) (k := 1) (x := 1) rfl (by omega)]
        show pl _ _ _ (_, [(1, .int (nI (k + 1))), (0, .ref m0)], [], M107) _
        refine ps_st (S' := (12, [(0, .ref m0), (1, .int (nI (k + 1)))], [], M107)) rfl rfl rfl ?_
        exact ih (k + 1) M107 I1 R108 hR109 hEI1 hER111 hl3 hl8 hL_112 (by omega)
  refine ps_st (S' := (1, [(0, .ref m0)], [.ref m0], M)) rfl rfl rfl ?_
  refine ps_st (S' := (2, [(0, .ref m0)], [.int 0, .ref m0], M)) rfl rfl rfl ?_
  refine pr_put (j := 3) rfl hR rfl (fun M113 I114 hR115 hi116 hI117 => ?_)
  have hEI118 := hEI.put hI117 (by decide)
  show pl _ _ _ (5, [(0, .ref m0)], [], M113) _
  refine ps_st (S' := (6, [(0, .ref m0)], [.ref m0], M113)) rfl rfl rfl ?_
  refine ps_st (S' := (7, [(0, .ref m0)], [.int 0, .ref m0], M113)) rfl rfl rfl ?_
  refine pr_put (j := 8) rfl hR115 rfl (fun M119 I120 hR121 hi122 hI123 => ?_)
  have hi124 := (hI123 3 (by decide)).trans hi116
  have hEI125 := hEI118.put hI123 (by decide)
  show pl _ _ _ (10, [(0, .ref m0)], [], M119) _
  refine ps_st (S' := (11, [(0, .ref m0)], [.int 0], M119)) rfl rfl rfl ?_
  refine ps_st (S' := (12, [(0, .ref m0), (1, .int 0)], [], M119)) rfl rfl rfl ?_
  exact (LL kf) (0) M119 I120 R hR121 hEI125 hER hi124 hi122 FIL.nil (by omega)
set_option maxHeartbeats 1000000 in
theorem rd_utf8 {g : xe_G} {m0 : Nat} {q : Nat → Nat} {z : Nat × Nat} {I : rI} {R : rR} {M : mi_H} {n : Nat} {f : Nat → Int32} {tx : List (List Nat)} {cN : Nat} {A : Nat → Nat} {j p m : Nat} (hR : RS g m0 q z I R M)  (hF : FK n f I R) (hY : SYT tx cN A I R) (hm : p + m ≤ n) (hj : j < 65540) : pt (mT g) 253 [.ref m0, .int (nI j), .int (nI p), .int (nI m)] M (fun v M' => (∃ (tx2 : List (List Nat)) (cN2 : Nat) (A2 : Nat → Nat) (l : List Nat) (x : Nat) (I' : rI) (R' : rR), (s_text f (p + m) m p [] = .inr l) ∧ (x < tx2.length ∧ tx2.getD x [] = l) ∧ (tx.length ≤ tx2.length ∧ ∀ s, s < tx.length → tx2.getD s [] = tx.getD s []) ∧ (R' 22 j = some (nI x) ∧ ∀ i, ¬ i = j → R' 22 i = R 22 i) ∧ v = some (.int 1) ∧ RS g m0 q z I' R' M' ∧ eqI [3, 8, 47, 48] I I' ∧ eqR [1, 2, 4, 5, 6, 7, 22] R R' ∧ SYT tx2 cN2 A2 I' R') ∨ (∃ (w : Nat) (I' : rI) (R' : rR), (s_text f (p + m) m p [] = .inl w) ∧ v = some (.int 0) ∧ RS g m0 q z I' R' M' ∧ eqI [3, 8, 47, 48] I I' ∧ eqR [1, 2, 4, 5, 6, 7, 22] R R' ∧ I' 47 = some 6 ∧ I' 48 = some (nI w))) := by
  refine pt_in (b := mb_253 g) rfl (fun kf => ?_)
  show pl (mT g) kf (mb_253 g).2 (0, [(0, .ref m0), (1, .int (nI j)), (2, .int (nI p)), (3, .int (nI m))], [], M) _
  have hEI : eqI [3, 8, 47, 48] I I := eqI.rf
  have hER : eqR [1, 2, 4, 5, 6, 7, 22] R R := eqR.rf
  have hn := hF.1
  obtain ⟨F22, hK⟩ : ∃ F22, K22 F22 I R := ⟨_, rfl⟩
  have LL : ∀ (kf : Nat), (∀ (p1 : Nat) (l : List Nat) (M1 : mi_H) (I1 : rI) (R1 : rR), (RS g m0 q z I1 R1 M1) → (eqI [3, 8, 47, 48] I I1) → (eqR [1, 2, 4, 5, 6, 7, 22] R R1) → (FK n f I1 R1) → (SYT tx cN A I1 R1) → (CUW l l.length I1 R1) → (K22 F22 I1 R1) → (p ≤ p1 ∧ p1 ≤ p + m ∧ l.length + (p + m - p1) ≤ m) → (s_text f (p + m) (p + m - p1) p1 l = s_text f (p + m) m p []) →  pl (mT g) kf (mb_253 g).2 (11, [(0, .ref m0), (1, .int (nI j)), (4, .int (nI l.length)), (5, .int (nI p1)), (6, .int (nI (p + m)))], [], M1) (fun v M' => (∃ (tx2 : List (List Nat)) (cN2 : Nat) (A2 : Nat → Nat) (l : List Nat) (x : Nat) (I' : rI) (R' : rR), (s_text f (p + m) m p [] = .inr l) ∧ (x < tx2.length ∧ tx2.getD x [] = l) ∧ (tx.length ≤ tx2.length ∧ ∀ s, s < tx.length → tx2.getD s [] = tx.getD s []) ∧ (R' 22 j = some (nI x) ∧ ∀ i, ¬ i = j → R' 22 i = R 22 i) ∧ v = some (.int 1) ∧ RS g m0 q z I' R' M' ∧ eqI [3, 8, 47, 48] I I' ∧ eqR [1, 2, 4, 5, 6, 7, 22] R R' ∧ SYT tx2 cN2 A2 I' R') ∨ (∃ (w : Nat) (I' : rI) (R' : rR), (s_text f (p + m) m p [] = .inl w) ∧ v = some (.int 0) ∧ RS g m0 q z I' R' M' ∧ eqI [3, 8, 47, 48] I I' ∧ eqR [1, 2, 4, 5, 6, 7, 22] R R' ∧ I' 47 = some 6 ∧ I' 48 = some (nI w)))) ∧ (∀ (p1 : Nat) (l : List Nat) (i : Nat) (M1 : mi_H) (I1 : rI) (R1 : rR), (RS g m0 q z I1 R1 M1) → (eqI [3, 8, 47, 48] I I1) → (eqR [1, 2, 4, 5, 6, 7, 22] R R1) → (FK n f I1 R1) → (SYT tx cN A I1 R1) → (CUW l l.length I1 R1) → (K22 F22 I1 R1) → (p ≤ p1 ∧ p1 ≤ p + m ∧ l.length + (p + m - p1) ≤ m) → (s_text f (p + m) (p + m - p1) p1 l = s_text f (p + m) m p []) → (p1 < p + m) → (¬ (by1 f p1 = 0 ∨ 240 ≤ by1 f p1 ∨ (128 ≤ by1 f p1 ∧ by1 f p1 ≤ 191))) → (1 ≤ i ∧ i ≤ moN (by1 f p1) + 1) → (∀ j, 1 ≤ j → j < i → p1 + j < p + m ∧ aN (by1 f (p1 + j)) 192 = 128) →  pl (mT g) kf (mb_253 g).2 (94, [(0, .ref m0), (1, .int (nI j)), (4, .int (nI l.length)), (5, .int (nI p1)), (6, .int (nI (p + m))), (7, .int (nI (by1 f p1))), (8, .int (nI (moN (by1 f p1)))), (9, .int (nI i))], [], M1) (fun v M' => (∃ (tx2 : List (List Nat)) (cN2 : Nat) (A2 : Nat → Nat) (l : List Nat) (x : Nat) (I' : rI) (R' : rR), (s_text f (p + m) m p [] = .inr l) ∧ (x < tx2.length ∧ tx2.getD x [] = l) ∧ (tx.length ≤ tx2.length ∧ ∀ s, s < tx.length → tx2.getD s [] = tx.getD s []) ∧ (R' 22 j = some (nI x) ∧ ∀ i, ¬ i = j → R' 22 i = R 22 i) ∧ v = some (.int 1) ∧ RS g m0 q z I' R' M' ∧ eqI [3, 8, 47, 48] I I' ∧ eqR [1, 2, 4, 5, 6, 7, 22] R R' ∧ SYT tx2 cN2 A2 I' R') ∨ (∃ (w : Nat) (I' : rI) (R' : rR), (s_text f (p + m) m p [] = .inl w) ∧ v = some (.int 0) ∧ RS g m0 q z I' R' M' ∧ eqI [3, 8, 47, 48] I I' ∧ eqR [1, 2, 4, 5, 6, 7, 22] R R' ∧ I' 47 = some 6 ∧ I' 48 = some (nI w)))) := by
    intro kf
    induction kf with
    | zero => exact ⟨by intros; exact pl_0, by intros; exact pl_0⟩
    | succ kf ih =>
      refine ⟨?_, ?_⟩
      · skip
        intro p1 l M1 I1 R1 hR1 hEI1 hER1 hF1 hY1 hU1 hK1 hp1 hs
        have hn := hF1.1
        refine ps_st1 (S' := (13, [(0, .ref m0), (1, .int (nI j)), (4, .int (nI l.length)), (5, .int (nI p1)), (6, .int (nI (p + m)))], [.int (nI p1)], M1)) rfl rfl rfl ?_
        refine ps_st (S' := (15, [(0, .ref m0), (1, .int (nI j)), (4, .int (nI l.length)), (5, .int (nI p1)), (6, .int (nI (p + m)))], [.int (nI (p + m)), .int (nI p1)], M1)) rfl rfl rfl ?_
        refine ps_if2 (S1 := (242, [(0, .ref m0), (1, .int (nI j)), (4, .int (nI l.length)), (5, .int (nI p1)), (6, .int (nI (p + m)))], [], M1)) (S2 := (18, [(0, .ref m0), (1, .int (nI j)), (4, .int (nI l.length)), (5, .int (nI p1)), (6, .int (nI (p + m)))], [], M1)) rfl rfl rfl (fun c_15 => ?_) (fun c_15 => ?_)
        · have c_15 : (nI (p + m)) ≤ (nI p1) := of_decide_eq_true c_15
          have n_15 : p + m ≤ p1 := (le_nI (p := p + m) (n := p1) (by omega) (by omega)).mp c_15
          refine ps_st (S' := (243, [(0, .ref m0), (1, .int (nI j)), (4, .int (nI l.length)), (5, .int (nI p1)), (6, .int (nI (p + m)))], [.ref m0], M1)) rfl rfl rfl ?_
          refine pr_ref (j := 22) (S' := (246, [(0, .ref m0), (1, .int (nI j)), (4, .int (nI l.length)), (5, .int (nI p1)), (6, .int (nI (p + m)))], [.ref (q 22)], M1)) rfl hR1 rfl rfl ?_
          refine ps_st (S' := (247, [(0, .ref m0), (1, .int (nI j)), (4, .int (nI l.length)), (5, .int (nI p1)), (6, .int (nI (p + m)))], [.int (nI j), .ref (q 22)], M1)) rfl rfl rfl ?_
          refine ps_st (S' := (248, [(0, .ref m0), (1, .int (nI j)), (4, .int (nI l.length)), (5, .int (nI p1)), (6, .int (nI (p + m)))], [.ref m0, .int (nI j), .ref (q 22)], M1)) rfl rfl rfl ?_
          refine ps_st (S' := (250, [(0, .ref m0), (1, .int (nI j)), (4, .int (nI l.length)), (5, .int (nI p1)), (6, .int (nI (p + m)))], [.int (nI l.length), .ref m0, .int (nI j), .ref (q 22)], M1)) rfl rfl rfl ?_
          refine pl_call (a := [.ref m0, .int (nI l.length)]) (rest := [.int (nI j), .ref (q 22)]) rfl rfl rfl (rd_symbol (tx := tx) (cN := cN) (A := A) (l := l) hR1 hY1 hU1 (by omega)) (fun v1 M2 q3 => ?_)
          obtain ⟨tx24, cN25, A26, x7, I8, R9, q250_x, q250_k, rfl, hR10, hI11, hX12, hY_13⟩ := q3
          have hF_14 := hF1.mono (cIx hI11 (by decide)) (cRx hX12 (by decide))
          have hU_15 := hU1.mono (cIx hI11 (by decide)) (cRx hX12 (by decide))
          have hK_16 := hK1.mono (cIx hI11 (by decide)) (cRx hX12 (by decide))
          have hEI17 := hEI1.tr hI11 (by decide)
          have hER18 := hER1.tr hX12 (by decide)
          show pl _ _ _ (253, [(0, .ref m0), (1, .int (nI j)), (4, .int (nI l.length)), (5, .int (nI p1)), (6, .int (nI (p + m)))], [.int (nI x7), .int (nI j), .ref (q 22)], M2) _
          refine pr_st (a := 22) (j := j) rfl hR10 rfl (by omega) (fun M19 R20 i1_253 hR21 hS22 => ?_)
          have hF_23 := hF_14.mono (fun _ _ => rfl) (rRx hS22 (by decide))
          have hU_24 := hU_15.mono (fun _ _ => rfl) (rRx hS22 (by decide))
          have hY_25 := hY_13.mono (fun _ _ => rfl) (rRx hS22 (by decide))
          have hER26 := hER18.st hS22 (by decide)
          show pl _ _ _ (254, [(0, .ref m0), (1, .int (nI j)), (4, .int (nI l.length)), (5, .int (nI p1)), (6, .int (nI (p + m)))], [], M19) _
          refine ps_st (S' := (255, [(0, .ref m0), (1, .int (nI j)), (4, .int (nI l.length)), (5, .int (nI p1)), (6, .int (nI (p + m)))], [.int 1], M19)) rfl rfl rfl ?_
          exact ps_ret rfl rfl (Or.inl ⟨tx24, cN25, A26, l, x7, I8, R20, by
              rw [← hs, s_text_0 (by omega)], q250_x, q250_k, ⟨by rw [hS22, rset_at], fun i hi => by rw [hS22, rset_el hi, show _ = F22 from hK_16, show R 22 = F22 from hK]⟩, rfl, hR21, hEI17, hER26, hY_25⟩)
        · have c_15 : ¬ ((nI (p + m)) ≤ (nI p1)) := of_decide_eq_false c_15
          have n_15 : ¬ (p + m ≤ p1) := fun h9 => c_15 ((le_nI (p := p + m) (n := p1) (by omega) (by omega)).mpr h9)
          refine ps_st (S' := (19, [(0, .ref m0), (1, .int (nI j)), (4, .int (nI l.length)), (5, .int (nI p1)), (6, .int (nI (p + m)))], [.ref m0], M1)) rfl rfl rfl ?_
          refine ps_st (S' := (21, [(0, .ref m0), (1, .int (nI j)), (4, .int (nI l.length)), (5, .int (nI p1)), (6, .int (nI (p + m)))], [.int (nI p1), .ref m0], M1)) rfl rfl rfl ?_
          refine pl_call (a := [.ref m0, .int (nI p1)]) (rest := []) rfl rfl rfl (rd_u1 (n := n) (f := f) (p := p1) hR1 hF1 (by omega)) (fun v27 M28 q29 => ?_)
          obtain ⟨rfl, rfl⟩ := q29
          show pl _ _ _ (24, [(0, .ref m0), (1, .int (nI j)), (4, .int (nI l.length)), (5, .int (nI p1)), (6, .int (nI (p + m)))], [.int (nI (by1 f p1))], M1) _
          have hu_21 := by1_lt f p1
          refine ps_st (S' := (26, [(7, .int (nI (by1 f p1))), (0, .ref m0), (1, .int (nI j)), (4, .int (nI l.length)), (5, .int (nI p1)), (6, .int (nI (p + m)))], [], M1)) rfl rfl rfl ?_
          refine ps_st (S' := (28, [(7, .int (nI (by1 f p1))), (0, .ref m0), (1, .int (nI j)), (4, .int (nI l.length)), (5, .int (nI p1)), (6, .int (nI (p + m)))], [.int (nI (by1 f p1))], M1)) rfl rfl rfl ?_
          refine ps_if (S1 := (55, [(0, .ref m0), (5, .int (nI p1))], [], M1)) (S2 := (31, [(7, .int (nI (by1 f p1))), (0, .ref m0), (1, .int (nI j)), (4, .int (nI l.length)), (5, .int (nI p1)), (6, .int (nI (p + m)))], [], M1)) rfl rfl rfl (fun c_28 => ?_) (fun c_28 => ?_)
          · have c_28 : (nI (by1 f p1)) = 0 := of_decide_eq_true c_28
            have n_28 : by1 f p1 = 0 := (eq_nI (p := by1 f p1) (n := 0) (Nat.lt_trans (by1_lt _ _) (by decide)) (by decide)).mp c_28
            refine ps_st (S' := (56, [(0, .ref m0), (5, .int (nI p1))], [.ref m0], M1)) rfl rfl rfl ?_
            refine ps_st (S' := (58, [(0, .ref m0), (5, .int (nI p1))], [.int 6, .ref m0], M1)) rfl rfl rfl ?_
            refine ps_st (S' := (60, [(0, .ref m0), (5, .int (nI p1))], [.int (nI p1), .int 6, .ref m0], M1)) rfl rfl rfl ?_
            refine pl_call (a := [.ref m0, .int 6, .int (nI p1)]) (rest := []) rfl rfl rfl (rd_wrong (x1 := 6) (x2 := (nI p1)) hR1) (fun v30 M31 q32 => ?_)
            obtain ⟨I33, R34, rfl, hR35, hI36, hX37, hi38, hi39⟩ := q32
            have hF_40 := hF1.mono (cIx hI36 (by decide)) (cRx hX37 (by decide))
            have hY_41 := hY1.mono (cIx hI36 (by decide)) (cRx hX37 (by decide))
            have hU_42 := hU1.mono (cIx hI36 (by decide)) (cRx hX37 (by decide))
            have hK_43 := hK1.mono (cIx hI36 (by decide)) (cRx hX37 (by decide))
            have hEI44 := hEI1.tr hI36 (by decide)
            have hER45 := hER1.tr hX37 (by decide)
            show pl _ _ _ (63, [(0, .ref m0), (5, .int (nI p1))], [.int 0], M31) _
            exact ps_ret rfl rfl (Or.inr ⟨p1, I33, R34, by
                rw [← hs]
                exact s_text_bad (by omega) (u8k_0 (by omega)), rfl, hR35, hEI44, hER45, hi38, hi39⟩)
          · have c_28 : ¬ ((nI (by1 f p1)) = 0) := of_decide_eq_false c_28
            have n_28 : ¬ (by1 f p1 = 0) := fun h9 => c_28 ((eq_nI (p := by1 f p1) (n := 0) (Nat.lt_trans (by1_lt _ _) (by decide)) (by decide)).mpr h9)
            refine ps_st (S' := (33, [(7, .int (nI (by1 f p1))), (0, .ref m0), (1, .int (nI j)), (4, .int (nI l.length)), (5, .int (nI p1)), (6, .int (nI (p + m)))], [.int (nI (by1 f p1))], M1)) rfl rfl rfl ?_
            refine ps_st (S' := (36, [(7, .int (nI (by1 f p1))), (0, .ref m0), (1, .int (nI j)), (4, .int (nI l.length)), (5, .int (nI p1)), (6, .int (nI (p + m)))], [.int 240, .int (nI (by1 f p1))], M1)) rfl rfl rfl ?_
            refine ps_if2 (S1 := (55, [(0, .ref m0), (5, .int (nI p1))], [], M1)) (S2 := (39, [(7, .int (nI (by1 f p1))), (0, .ref m0), (1, .int (nI j)), (4, .int (nI l.length)), (5, .int (nI p1)), (6, .int (nI (p + m)))], [], M1)) rfl rfl rfl (fun c_36 => ?_) (fun c_36 => ?_)
            · have c_36 : 240 ≤ (nI (by1 f p1)) := of_decide_eq_true c_36
              have n_36 : 240 ≤ by1 f p1 := (le_nI (p := 240) (n := by1 f p1) (by decide) (Nat.lt_trans (by1_lt _ _) (by decide))).mp c_36
              refine ps_st (S' := (56, [(0, .ref m0), (5, .int (nI p1))], [.ref m0], M1)) rfl rfl rfl ?_
              refine ps_st (S' := (58, [(0, .ref m0), (5, .int (nI p1))], [.int 6, .ref m0], M1)) rfl rfl rfl ?_
              refine ps_st (S' := (60, [(0, .ref m0), (5, .int (nI p1))], [.int (nI p1), .int 6, .ref m0], M1)) rfl rfl rfl ?_
              refine pl_call (a := [.ref m0, .int 6, .int (nI p1)]) (rest := []) rfl rfl rfl (rd_wrong (x1 := 6) (x2 := (nI p1)) hR1) (fun v46 M47 q48 => ?_)
              obtain ⟨I49, R50, rfl, hR51, hI52, hX53, hi54, hi55⟩ := q48
              have hF_56 := hF1.mono (cIx hI52 (by decide)) (cRx hX53 (by decide))
              have hY_57 := hY1.mono (cIx hI52 (by decide)) (cRx hX53 (by decide))
              have hU_58 := hU1.mono (cIx hI52 (by decide)) (cRx hX53 (by decide))
              have hK_59 := hK1.mono (cIx hI52 (by decide)) (cRx hX53 (by decide))
              have hEI60 := hEI1.tr hI52 (by decide)
              have hER61 := hER1.tr hX53 (by decide)
              show pl _ _ _ (63, [(0, .ref m0), (5, .int (nI p1))], [.int 0], M47) _
              exact ps_ret rfl rfl (Or.inr ⟨p1, I49, R50, by
                  rw [← hs]
                  exact s_text_bad (by omega) (u8k_0 (by omega)), rfl, hR51, hEI60, hER61, hi54, hi55⟩)
            · have c_36 : ¬ (240 ≤ (nI (by1 f p1))) := of_decide_eq_false c_36
              have n_36 : ¬ (240 ≤ by1 f p1) := fun h9 => c_36 ((le_nI (p := 240) (n := by1 f p1) (by decide) (Nat.lt_trans (by1_lt _ _) (by decide))).mpr h9)
              refine ps_st (S' := (41, [(7, .int (nI (by1 f p1))), (0, .ref m0), (1, .int (nI j)), (4, .int (nI l.length)), (5, .int (nI p1)), (6, .int (nI (p + m)))], [.int (nI (by1 f p1))], M1)) rfl rfl rfl ?_
              refine ps_st (S' := (44, [(7, .int (nI (by1 f p1))), (0, .ref m0), (1, .int (nI j)), (4, .int (nI l.length)), (5, .int (nI p1)), (6, .int (nI (p + m)))], [.int 128, .int (nI (by1 f p1))], M1)) rfl rfl rfl ?_
              refine ps_if2 (S1 := (64, [(0, .ref m0), (1, .int (nI j)), (4, .int (nI l.length)), (5, .int (nI p1)), (6, .int (nI (p + m))), (7, .int (nI (by1 f p1)))], [], M1)) (S2 := (47, [(7, .int (nI (by1 f p1))), (0, .ref m0), (1, .int (nI j)), (4, .int (nI l.length)), (5, .int (nI p1)), (6, .int (nI (p + m)))], [], M1)) rfl rfl rfl (fun c_44 => ?_) (fun c_44 => ?_)
              · have c_44 : (nI (by1 f p1)) < 128 := of_decide_eq_true c_44
                have n_44 : by1 f p1 < 128 := (lt_nI (p := by1 f p1) (n := 128) (Nat.lt_trans (by1_lt _ _) (by decide)) (by decide)).mp c_44
                refine ps_st (S' := (66, [(0, .ref m0), (1, .int (nI j)), (4, .int (nI l.length)), (5, .int (nI p1)), (6, .int (nI (p + m))), (7, .int (nI (by1 f p1)))], [.int (nI (by1 f p1))], M1)) rfl rfl rfl ?_
                refine ps_st (S' := (69, [(0, .ref m0), (1, .int (nI j)), (4, .int (nI l.length)), (5, .int (nI p1)), (6, .int (nI (p + m))), (7, .int (nI (by1 f p1)))], [.int 128, .int (nI (by1 f p1))], M1)) rfl rfl rfl ?_
                refine ps_if2 (S1 := (76, [(0, .ref m0), (1, .int (nI j)), (4, .int (nI l.length)), (5, .int (nI p1)), (6, .int (nI (p + m))), (7, .int (nI (by1 f p1)))], [], M1)) (S2 := (72, [(0, .ref m0), (1, .int (nI j)), (4, .int (nI l.length)), (5, .int (nI p1)), (6, .int (nI (p + m))), (7, .int (nI (by1 f p1)))], [], M1)) rfl rfl rfl (fun c_69 => ?_) (fun c_69 => ?_)
                · have c_69 : 128 ≤ (nI (by1 f p1)) := of_decide_eq_true c_69
                  have n_69 : 128 ≤ by1 f p1 := (le_nI (p := 128) (n := by1 f p1) (by decide) (Nat.lt_trans (by1_lt _ _) (by decide))).mp c_69
                  refine ps_st (S' := (78, [(0, .ref m0), (1, .int (nI j)), (4, .int (nI l.length)), (5, .int (nI p1)), (6, .int (nI (p + m))), (7, .int (nI (by1 f p1)))], [.int (nI (by1 f p1))], M1)) rfl rfl rfl ?_
                  refine ps_st (S' := (81, [(0, .ref m0), (1, .int (nI j)), (4, .int (nI l.length)), (5, .int (nI p1)), (6, .int (nI (p + m))), (7, .int (nI (by1 f p1)))], [.int 224, .int (nI (by1 f p1))], M1)) rfl rfl rfl ?_
                  refine ps_if2 (S1 := (88, [(0, .ref m0), (1, .int (nI j)), (4, .int (nI l.length)), (5, .int (nI p1)), (6, .int (nI (p + m))), (7, .int (nI (by1 f p1)))], [], M1)) (S2 := (84, [(0, .ref m0), (1, .int (nI j)), (4, .int (nI l.length)), (5, .int (nI p1)), (6, .int (nI (p + m))), (7, .int (nI (by1 f p1)))], [], M1)) rfl rfl rfl (fun c_81 => ?_) (fun c_81 => ?_)
                  · have c_81 : 224 ≤ (nI (by1 f p1)) := of_decide_eq_true c_81
                    have n_81 : 224 ≤ by1 f p1 := (le_nI (p := 224) (n := by1 f p1) (by decide) (Nat.lt_trans (by1_lt _ _) (by decide))).mp c_81
                    refine ps_st (S' := (89, [(0, .ref m0), (1, .int (nI j)), (4, .int (nI l.length)), (5, .int (nI p1)), (6, .int (nI (p + m))), (7, .int (nI (by1 f p1)))], [.int 2], M1)) rfl rfl rfl ?_
                    refine pl_top (x := 2) (y := (nI (moN (by1 f p1)))) (congrArg nI (show 2 = moN (by1 f p1) by unfold moN; first | ((repeat first | rw [if_pos (by omega)] | rw [if_neg (by omega)]) <;> first | rfl | omega) | ((repeat' split) <;> first | rfl | (exfalso; omega) | omega))) ?_
                    refine ps_st (S' := (91, [(8, .int (nI (moN (by1 f p1)))), (0, .ref m0), (1, .int (nI j)), (4, .int (nI l.length)), (5, .int (nI p1)), (6, .int (nI (p + m))), (7, .int (nI (by1 f p1)))], [], M1)) rfl rfl rfl ?_
                    refine ps_st (S' := (92, [(8, .int (nI (moN (by1 f p1)))), (0, .ref m0), (1, .int (nI j)), (4, .int (nI l.length)), (5, .int (nI p1)), (6, .int (nI (p + m))), (7, .int (nI (by1 f p1)))], [.int 1], M1)) rfl rfl rfl ?_
                    refine ps_st (S' := (94, [(0, .ref m0), (1, .int (nI j)), (4, .int (nI l.length)), (5, .int (nI p1)), (6, .int (nI (p + m))), (7, .int (nI (by1 f p1))), (8, .int (nI (moN (by1 f p1)))), (9, .int 1)], [], M1)) rfl rfl rfl ?_
                    exact ih.2 (p1) (l) (1) M1 I1 R1 hR1 hEI1 hER1 hF1 hY1 hU1 hK1 (hp1) (hs) (by omega) (by omega) (by omega) (fun j a b => by omega)
                  · have c_81 : ¬ (224 ≤ (nI (by1 f p1))) := of_decide_eq_false c_81
                    have n_81 : ¬ (224 ≤ by1 f p1) := fun h9 => c_81 ((le_nI (p := 224) (n := by1 f p1) (by decide) (Nat.lt_trans (by1_lt _ _) (by decide))).mpr h9)
                    refine ps_st (S' := (85, [(0, .ref m0), (1, .int (nI j)), (4, .int (nI l.length)), (5, .int (nI p1)), (6, .int (nI (p + m))), (7, .int (nI (by1 f p1)))], [.int 1], M1)) rfl rfl rfl ?_
                    refine ps_st (S' := (89, [(0, .ref m0), (1, .int (nI j)), (4, .int (nI l.length)), (5, .int (nI p1)), (6, .int (nI (p + m))), (7, .int (nI (by1 f p1)))], [.int 1], M1)) rfl rfl rfl ?_
                    refine pl_top (x := 1) (y := (nI (moN (by1 f p1)))) (congrArg nI (show 1 = moN (by1 f p1) by unfold moN; first | ((repeat first | rw [if_pos (by omega)] | rw [if_neg (by omega)]) <;> first | rfl | omega) | ((repeat' split) <;> first | rfl | (exfalso; omega) | omega))) ?_
                    refine ps_st (S' := (91, [(8, .int (nI (moN (by1 f p1)))), (0, .ref m0), (1, .int (nI j)), (4, .int (nI l.length)), (5, .int (nI p1)), (6, .int (nI (p + m))), (7, .int (nI (by1 f p1)))], [], M1)) rfl rfl rfl ?_
                    refine ps_st (S' := (92, [(8, .int (nI (moN (by1 f p1)))), (0, .ref m0), (1, .int (nI j)), (4, .int (nI l.length)), (5, .int (nI p1)), (6, .int (nI (p + m))), (7, .int (nI (by1 f p1)))], [.int 1], M1)) rfl rfl rfl ?_
                    refine ps_st (S' := (94, [(0, .ref m0), (1, .int (nI j)), (4, .int (nI l.length)), (5, .int (nI p1)), (6, .int (nI (p + m))), (7, .int (nI (by1 f p1))), (8, .int (nI (moN (by1 f p1)))), (9, .int 1)], [], M1)) rfl rfl rfl ?_
                    exact ih.2 (p1) (l) (1) M1 I1 R1 hR1 hEI1 hER1 hF1 hY1 hU1 hK1 (hp1) (hs) (by omega) (by omega) (by omega) (fun j a b => by omega)
                · have c_69 : ¬ (128 ≤ (nI (by1 f p1))) := of_decide_eq_false c_69
                  have n_69 : ¬ (128 ≤ by1 f p1) := fun h9 => c_69 ((le_nI (p := 128) (n := by1 f p1) (by decide) (Nat.lt_trans (by1_lt _ _) (by decide))).mpr h9)
                  refine ps_st (S' := (73, [(0, .ref m0), (1, .int (nI j)), (4, .int (nI l.length)), (5, .int (nI p1)), (6, .int (nI (p + m))), (7, .int (nI (by1 f p1)))], [.int 0], M1)) rfl rfl rfl ?_
                  refine ps_st (S' := (89, [(0, .ref m0), (1, .int (nI j)), (4, .int (nI l.length)), (5, .int (nI p1)), (6, .int (nI (p + m))), (7, .int (nI (by1 f p1)))], [.int 0], M1)) rfl rfl rfl ?_
                  refine pl_top (x := 0) (y := (nI (moN (by1 f p1)))) (congrArg nI (show 0 = moN (by1 f p1) by unfold moN; first | ((repeat first | rw [if_pos (by omega)] | rw [if_neg (by omega)]) <;> first | rfl | omega) | ((repeat' split) <;> first | rfl | (exfalso; omega) | omega))) ?_
                  refine ps_st (S' := (91, [(8, .int (nI (moN (by1 f p1)))), (0, .ref m0), (1, .int (nI j)), (4, .int (nI l.length)), (5, .int (nI p1)), (6, .int (nI (p + m))), (7, .int (nI (by1 f p1)))], [], M1)) rfl rfl rfl ?_
                  refine ps_st (S' := (92, [(8, .int (nI (moN (by1 f p1)))), (0, .ref m0), (1, .int (nI j)), (4, .int (nI l.length)), (5, .int (nI p1)), (6, .int (nI (p + m))), (7, .int (nI (by1 f p1)))], [.int 1], M1)) rfl rfl rfl ?_
                  refine ps_st (S' := (94, [(0, .ref m0), (1, .int (nI j)), (4, .int (nI l.length)), (5, .int (nI p1)), (6, .int (nI (p + m))), (7, .int (nI (by1 f p1))), (8, .int (nI (moN (by1 f p1)))), (9, .int 1)], [], M1)) rfl rfl rfl ?_
                  exact ih.2 (p1) (l) (1) M1 I1 R1 hR1 hEI1 hER1 hF1 hY1 hU1 hK1 (hp1) (hs) (by omega) (by omega) (by omega) (fun j a b => by omega)
              · have c_44 : ¬ ((nI (by1 f p1)) < 128) := of_decide_eq_false c_44
                have n_44 : ¬ (by1 f p1 < 128) := fun h9 => c_44 ((lt_nI (p := by1 f p1) (n := 128) (Nat.lt_trans (by1_lt _ _) (by decide)) (by decide)).mpr h9)
                refine ps_st (S' := (49, [(7, .int (nI (by1 f p1))), (0, .ref m0), (1, .int (nI j)), (4, .int (nI l.length)), (5, .int (nI p1)), (6, .int (nI (p + m)))], [.int (nI (by1 f p1))], M1)) rfl rfl rfl ?_
                refine ps_st (S' := (52, [(7, .int (nI (by1 f p1))), (0, .ref m0), (1, .int (nI j)), (4, .int (nI l.length)), (5, .int (nI p1)), (6, .int (nI (p + m)))], [.int 191, .int (nI (by1 f p1))], M1)) rfl rfl rfl ?_
                refine ps_if2 (S1 := (64, [(0, .ref m0), (1, .int (nI j)), (4, .int (nI l.length)), (5, .int (nI p1)), (6, .int (nI (p + m))), (7, .int (nI (by1 f p1)))], [], M1)) (S2 := (55, [(0, .ref m0), (5, .int (nI p1))], [], M1)) rfl rfl rfl (fun c_52 => ?_) (fun c_52 => ?_)
                · have c_52 : 191 < (nI (by1 f p1)) := of_decide_eq_true c_52
                  have n_52 : 191 < by1 f p1 := (lt_nI (p := 191) (n := by1 f p1) (by decide) (Nat.lt_trans (by1_lt _ _) (by decide))).mp c_52
                  refine ps_st (S' := (66, [(0, .ref m0), (1, .int (nI j)), (4, .int (nI l.length)), (5, .int (nI p1)), (6, .int (nI (p + m))), (7, .int (nI (by1 f p1)))], [.int (nI (by1 f p1))], M1)) rfl rfl rfl ?_
                  refine ps_st (S' := (69, [(0, .ref m0), (1, .int (nI j)), (4, .int (nI l.length)), (5, .int (nI p1)), (6, .int (nI (p + m))), (7, .int (nI (by1 f p1)))], [.int 128, .int (nI (by1 f p1))], M1)) rfl rfl rfl ?_
                  refine ps_if2 (S1 := (76, [(0, .ref m0), (1, .int (nI j)), (4, .int (nI l.length)), (5, .int (nI p1)), (6, .int (nI (p + m))), (7, .int (nI (by1 f p1)))], [], M1)) (S2 := (72, [(0, .ref m0), (1, .int (nI j)), (4, .int (nI l.length)), (5, .int (nI p1)), (6, .int (nI (p + m))), (7, .int (nI (by1 f p1)))], [], M1)) rfl rfl rfl (fun c_69 => ?_) (fun c_69 => ?_)
                  · have c_69 : 128 ≤ (nI (by1 f p1)) := of_decide_eq_true c_69
                    have n_69 : 128 ≤ by1 f p1 := (le_nI (p := 128) (n := by1 f p1) (by decide) (Nat.lt_trans (by1_lt _ _) (by decide))).mp c_69
                    refine ps_st (S' := (78, [(0, .ref m0), (1, .int (nI j)), (4, .int (nI l.length)), (5, .int (nI p1)), (6, .int (nI (p + m))), (7, .int (nI (by1 f p1)))], [.int (nI (by1 f p1))], M1)) rfl rfl rfl ?_
                    refine ps_st (S' := (81, [(0, .ref m0), (1, .int (nI j)), (4, .int (nI l.length)), (5, .int (nI p1)), (6, .int (nI (p + m))), (7, .int (nI (by1 f p1)))], [.int 224, .int (nI (by1 f p1))], M1)) rfl rfl rfl ?_
                    refine ps_if2 (S1 := (88, [(0, .ref m0), (1, .int (nI j)), (4, .int (nI l.length)), (5, .int (nI p1)), (6, .int (nI (p + m))), (7, .int (nI (by1 f p1)))], [], M1)) (S2 := (84, [(0, .ref m0), (1, .int (nI j)), (4, .int (nI l.length)), (5, .int (nI p1)), (6, .int (nI (p + m))), (7, .int (nI (by1 f p1)))], [], M1)) rfl rfl rfl (fun c_81 => ?_) (fun c_81 => ?_)
                    · have c_81 : 224 ≤ (nI (by1 f p1)) := of_decide_eq_true c_81
                      have n_81 : 224 ≤ by1 f p1 := (le_nI (p := 224) (n := by1 f p1) (by decide) (Nat.lt_trans (by1_lt _ _) (by decide))).mp c_81
                      refine ps_st (S' := (89, [(0, .ref m0), (1, .int (nI j)), (4, .int (nI l.length)), (5, .int (nI p1)), (6, .int (nI (p + m))), (7, .int (nI (by1 f p1)))], [.int 2], M1)) rfl rfl rfl ?_
                      refine pl_top (x := 2) (y := (nI (moN (by1 f p1)))) (congrArg nI (show 2 = moN (by1 f p1) by unfold moN; first | ((repeat first | rw [if_pos (by omega)] | rw [if_neg (by omega)]) <;> first | rfl | omega) | ((repeat' split) <;> first | rfl | (exfalso; omega) | omega))) ?_
                      refine ps_st (S' := (91, [(8, .int (nI (moN (by1 f p1)))), (0, .ref m0), (1, .int (nI j)), (4, .int (nI l.length)), (5, .int (nI p1)), (6, .int (nI (p + m))), (7, .int (nI (by1 f p1)))], [], M1)) rfl rfl rfl ?_
                      refine ps_st (S' := (92, [(8, .int (nI (moN (by1 f p1)))), (0, .ref m0), (1, .int (nI j)), (4, .int (nI l.length)), (5, .int (nI p1)), (6, .int (nI (p + m))), (7, .int (nI (by1 f p1)))], [.int 1], M1)) rfl rfl rfl ?_
                      refine ps_st (S' := (94, [(0, .ref m0), (1, .int (nI j)), (4, .int (nI l.length)), (5, .int (nI p1)), (6, .int (nI (p + m))), (7, .int (nI (by1 f p1))), (8, .int (nI (moN (by1 f p1)))), (9, .int 1)], [], M1)) rfl rfl rfl ?_
                      exact ih.2 (p1) (l) (1) M1 I1 R1 hR1 hEI1 hER1 hF1 hY1 hU1 hK1 (hp1) (hs) (by omega) (by omega) (by omega) (fun j a b => by omega)
                    · have c_81 : ¬ (224 ≤ (nI (by1 f p1))) := of_decide_eq_false c_81
                      have n_81 : ¬ (224 ≤ by1 f p1) := fun h9 => c_81 ((le_nI (p := 224) (n := by1 f p1) (by decide) (Nat.lt_trans (by1_lt _ _) (by decide))).mpr h9)
                      refine ps_st (S' := (85, [(0, .ref m0), (1, .int (nI j)), (4, .int (nI l.length)), (5, .int (nI p1)), (6, .int (nI (p + m))), (7, .int (nI (by1 f p1)))], [.int 1], M1)) rfl rfl rfl ?_
                      refine ps_st (S' := (89, [(0, .ref m0), (1, .int (nI j)), (4, .int (nI l.length)), (5, .int (nI p1)), (6, .int (nI (p + m))), (7, .int (nI (by1 f p1)))], [.int 1], M1)) rfl rfl rfl ?_
                      refine pl_top (x := 1) (y := (nI (moN (by1 f p1)))) (congrArg nI (show 1 = moN (by1 f p1) by unfold moN; first | ((repeat first | rw [if_pos (by omega)] | rw [if_neg (by omega)]) <;> first | rfl | omega) | ((repeat' split) <;> first | rfl | (exfalso; omega) | omega))) ?_
                      refine ps_st (S' := (91, [(8, .int (nI (moN (by1 f p1)))), (0, .ref m0), (1, .int (nI j)), (4, .int (nI l.length)), (5, .int (nI p1)), (6, .int (nI (p + m))), (7, .int (nI (by1 f p1)))], [], M1)) rfl rfl rfl ?_
                      refine ps_st (S' := (92, [(8, .int (nI (moN (by1 f p1)))), (0, .ref m0), (1, .int (nI j)), (4, .int (nI l.length)), (5, .int (nI p1)), (6, .int (nI (p + m))), (7, .int (nI (by1 f p1)))], [.int 1], M1)) rfl rfl rfl ?_
                      refine ps_st (S' := (94, [(0, .ref m0), (1, .int (nI j)), (4, .int (nI l.length)), (5, .int (nI p1)), (6, .int (nI (p + m))), (7, .int (nI (by1 f p1))), (8, .int (nI (moN (by1 f p1)))), (9, .int 1)], [], M1)) rfl rfl rfl ?_
                      exact ih.2 (p1) (l) (1) M1 I1 R1 hR1 hEI1 hER1 hF1 hY1 hU1 hK1 (hp1) (hs) (by omega) (by omega) (by omega) (fun j a b => by omega)
                  · have c_69 : ¬ (128 ≤ (nI (by1 f p1))) := of_decide_eq_false c_69
                    have n_69 : ¬ (128 ≤ by1 f p1) := fun h9 => c_69 ((le_nI (p := 128) (n := by1 f p1) (by decide) (Nat.lt_trans (by1_lt _ _) (by decide))).mpr h9)
                    refine ps_st (S' := (73, [(0, .ref m0), (1, .int (nI j)), (4, .int (nI l.length)), (5, .int (nI p1)), (6, .int (nI (p + m))), (7, .int (nI (by1 f p1)))], [.int 0], M1)) rfl rfl rfl ?_
                    refine ps_st (S' := (89, [(0, .ref m0), (1, .int (nI j)), (4, .int (nI l.length)), (5, .int (nI p1)), (6, .int (nI (p + m))), (7, .int (nI (by1 f p1)))], [.int 0], M1)) rfl rfl rfl ?_
                    refine pl_top (x := 0) (y := (nI (moN (by1 f p1)))) (congrArg nI (show 0 = moN (by1 f p1) by unfold moN; first | ((repeat first | rw [if_pos (by omega)] | rw [if_neg (by omega)]) <;> first | rfl | omega) | ((repeat' split) <;> first | rfl | (exfalso; omega) | omega))) ?_
                    refine ps_st (S' := (91, [(8, .int (nI (moN (by1 f p1)))), (0, .ref m0), (1, .int (nI j)), (4, .int (nI l.length)), (5, .int (nI p1)), (6, .int (nI (p + m))), (7, .int (nI (by1 f p1)))], [], M1)) rfl rfl rfl ?_
                    refine ps_st (S' := (92, [(8, .int (nI (moN (by1 f p1)))), (0, .ref m0), (1, .int (nI j)), (4, .int (nI l.length)), (5, .int (nI p1)), (6, .int (nI (p + m))), (7, .int (nI (by1 f p1)))], [.int 1], M1)) rfl rfl rfl ?_
                    refine ps_st (S' := (94, [(0, .ref m0), (1, .int (nI j)), (4, .int (nI l.length)), (5, .int (nI p1)), (6, .int (nI (p + m))), (7, .int (nI (by1 f p1))), (8, .int (nI (moN (by1 f p1)))), (9, .int 1)], [], M1)) rfl rfl rfl ?_
                    exact ih.2 (p1) (l) (1) M1 I1 R1 hR1 hEI1 hER1 hF1 hY1 hU1 hK1 (hp1) (hs) (by omega) (by omega) (by omega) (fun j a b => by omega)
                · have c_52 : ¬ (191 < (nI (by1 f p1))) := of_decide_eq_false c_52
                  have n_52 : ¬ (191 < by1 f p1) := fun h9 => c_52 ((lt_nI (p := 191) (n := by1 f p1) (by decide) (Nat.lt_trans (by1_lt _ _) (by decide))).mpr h9)
                  refine ps_st (S' := (56, [(0, .ref m0), (5, .int (nI p1))], [.ref m0], M1)) rfl rfl rfl ?_
                  refine ps_st (S' := (58, [(0, .ref m0), (5, .int (nI p1))], [.int 6, .ref m0], M1)) rfl rfl rfl ?_
                  refine ps_st (S' := (60, [(0, .ref m0), (5, .int (nI p1))], [.int (nI p1), .int 6, .ref m0], M1)) rfl rfl rfl ?_
                  refine pl_call (a := [.ref m0, .int 6, .int (nI p1)]) (rest := []) rfl rfl rfl (rd_wrong (x1 := 6) (x2 := (nI p1)) hR1) (fun v62 M63 q64 => ?_)
                  obtain ⟨I65, R66, rfl, hR67, hI68, hX69, hi70, hi71⟩ := q64
                  have hF_72 := hF1.mono (cIx hI68 (by decide)) (cRx hX69 (by decide))
                  have hY_73 := hY1.mono (cIx hI68 (by decide)) (cRx hX69 (by decide))
                  have hU_74 := hU1.mono (cIx hI68 (by decide)) (cRx hX69 (by decide))
                  have hK_75 := hK1.mono (cIx hI68 (by decide)) (cRx hX69 (by decide))
                  have hEI76 := hEI1.tr hI68 (by decide)
                  have hER77 := hER1.tr hX69 (by decide)
                  show pl _ _ _ (63, [(0, .ref m0), (5, .int (nI p1))], [.int 0], M63) _
                  exact ps_ret rfl rfl (Or.inr ⟨p1, I65, R66, by
                      rw [← hs]
                      exact s_text_bad (by omega) (u8k_0 (by omega)), rfl, hR67, hEI76, hER77, hi70, hi71⟩)
      · skip
        intro p1 l i M1 I1 R1 hR1 hEI1 hER1 hF1 hY1 hU1 hK1 hp1 hs hlt hg hi hok
        have hmo := moN_le (by1 f p1)
        have hn := hF1.1
        have hu9 := by1_lt f p1
        refine ps_st1 (S' := (96, [(0, .ref m0), (1, .int (nI j)), (4, .int (nI l.length)), (5, .int (nI p1)), (6, .int (nI (p + m))), (7, .int (nI (by1 f p1))), (8, .int (nI (moN (by1 f p1)))), (9, .int (nI i))], [.int (nI i)], M1)) rfl rfl rfl ?_
        refine ps_st (S' := (98, [(0, .ref m0), (1, .int (nI j)), (4, .int (nI l.length)), (5, .int (nI p1)), (6, .int (nI (p + m))), (7, .int (nI (by1 f p1))), (8, .int (nI (moN (by1 f p1)))), (9, .int (nI i))], [.int (nI (moN (by1 f p1))), .int (nI i)], M1)) rfl rfl rfl ?_
        refine ps_if2 (S1 := (145, [(0, .ref m0), (1, .int (nI j)), (4, .int (nI l.length)), (5, .int (nI p1)), (6, .int (nI (p + m))), (7, .int (nI (by1 f p1))), (8, .int (nI (moN (by1 f p1)))), (9, .int (nI i))], [], M1)) (S2 := (101, [(0, .ref m0), (1, .int (nI j)), (4, .int (nI l.length)), (5, .int (nI p1)), (6, .int (nI (p + m))), (7, .int (nI (by1 f p1))), (8, .int (nI (moN (by1 f p1)))), (9, .int (nI i))], [], M1)) rfl rfl rfl (fun c_98 => ?_) (fun c_98 => ?_)
        · have c_98 : (nI (moN (by1 f p1))) < (nI i) := of_decide_eq_true c_98
          have n_98 : moN (by1 f p1) < i := (lt_nI (p := moN (by1 f p1)) (n := i) (by omega) (by omega)).mp c_98
          refine ps_st (S' := (146, [(0, .ref m0), (1, .int (nI j)), (4, .int (nI l.length)), (5, .int (nI p1)), (6, .int (nI (p + m))), (7, .int (nI (by1 f p1))), (8, .int (nI (moN (by1 f p1)))), (9, .int (nI i))], [.ref m0], M1)) rfl rfl rfl ?_
          refine pr_ref (j := 2) (S' := (149, [(0, .ref m0), (1, .int (nI j)), (4, .int (nI l.length)), (5, .int (nI p1)), (6, .int (nI (p + m))), (7, .int (nI (by1 f p1))), (8, .int (nI (moN (by1 f p1)))), (9, .int (nI i))], [.ref (q 2)], M1)) rfl hR1 rfl rfl ?_
          refine ps_st (S' := (151, [(0, .ref m0), (1, .int (nI j)), (4, .int (nI l.length)), (5, .int (nI p1)), (6, .int (nI (p + m))), (7, .int (nI (by1 f p1))), (8, .int (nI (moN (by1 f p1)))), (9, .int (nI i))], [.int (nI l.length), .ref (q 2)], M1)) rfl rfl rfl ?_
          refine ps_st (S' := (154, [(4, .int ((nI l.length) + 1)), (0, .ref m0), (1, .int (nI j)), (5, .int (nI p1)), (6, .int (nI (p + m))), (7, .int (nI (by1 f p1))), (8, .int (nI (moN (by1 f p1)))), (9, .int (nI i))], [.int (nI l.length), .ref (q 2)], M1)) rfl rfl rfl ?_
          rw [nI_add1 (p := l.length) (k := 1) (x := 1) rfl (by omega)]
          show pl _ _ _ (_, [(4, .int (nI (l.length + 1))), (0, .ref m0), (1, .int (nI j)), (5, .int (nI p1)), (6, .int (nI (p + m))), (7, .int (nI (by1 f p1))), (8, .int (nI (moN (by1 f p1)))), (9, .int (nI i))], [.int (nI l.length), .ref (q 2)], M1) _
          refine ps_st (S' := (156, [(4, .int (nI (l.length + 1))), (0, .ref m0), (1, .int (nI j)), (5, .int (nI p1)), (6, .int (nI (p + m))), (7, .int (nI (by1 f p1))), (8, .int (nI (moN (by1 f p1)))), (9, .int (nI i))], [.int (nI (moN (by1 f p1))), .int (nI l.length), .ref (q 2)], M1)) rfl rfl rfl ?_
          refine ps_if (S1 := (164, [(4, .int (nI (l.length + 1))), (0, .ref m0), (1, .int (nI j)), (5, .int (nI p1)), (6, .int (nI (p + m))), (7, .int (nI (by1 f p1))), (8, .int (nI (moN (by1 f p1)))), (9, .int (nI i))], [.int (nI l.length), .ref (q 2)], M1)) (S2 := (159, [(4, .int (nI (l.length + 1))), (0, .ref m0), (1, .int (nI j)), (5, .int (nI p1)), (6, .int (nI (p + m))), (7, .int (nI (by1 f p1))), (8, .int (nI (moN (by1 f p1)))), (9, .int (nI i))], [.int (nI l.length), .ref (q 2)], M1)) rfl rfl rfl (fun c_156 => ?_) (fun c_156 => ?_)
          · have c_156 : ¬ (nI (moN (by1 f p1))) = 0 := of_decide_eq_true c_156
            have n_156 : ¬ (moN (by1 f p1) = 0) := fun h9 => c_156 ((eq_nI (p := moN (by1 f p1)) (n := 0) (by omega) (by decide)).mpr h9)
            refine ps_st (S' := (166, [(4, .int (nI (l.length + 1))), (0, .ref m0), (1, .int (nI j)), (5, .int (nI p1)), (6, .int (nI (p + m))), (7, .int (nI (by1 f p1))), (8, .int (nI (moN (by1 f p1)))), (9, .int (nI i))], [.int (nI (moN (by1 f p1))), .int (nI l.length), .ref (q 2)], M1)) rfl rfl rfl ?_
            refine ps_st (S' := (167, [(4, .int (nI (l.length + 1))), (0, .ref m0), (1, .int (nI j)), (5, .int (nI p1)), (6, .int (nI (p + m))), (7, .int (nI (by1 f p1))), (8, .int (nI (moN (by1 f p1)))), (9, .int (nI i))], [.int 1, .int (nI (moN (by1 f p1))), .int (nI l.length), .ref (q 2)], M1)) rfl rfl rfl ?_
            refine ps_if2 (S1 := (193, [(4, .int (nI (l.length + 1))), (0, .ref m0), (1, .int (nI j)), (5, .int (nI p1)), (6, .int (nI (p + m))), (7, .int (nI (by1 f p1))), (8, .int (nI (moN (by1 f p1)))), (9, .int (nI i))], [.int (nI l.length), .ref (q 2)], M1)) (S2 := (170, [(4, .int (nI (l.length + 1))), (0, .ref m0), (1, .int (nI j)), (5, .int (nI p1)), (6, .int (nI (p + m))), (7, .int (nI (by1 f p1))), (8, .int (nI (moN (by1 f p1)))), (9, .int (nI i))], [.int (nI l.length), .ref (q 2)], M1)) rfl rfl rfl (fun c_167 => ?_) (fun c_167 => ?_)
            · have c_167 : ¬ (nI (moN (by1 f p1))) = 1 := of_decide_eq_true c_167
              have n_167 : ¬ (moN (by1 f p1) = 1) := fun h9 => c_167 ((eq_nI (p := moN (by1 f p1)) (n := 1) (by omega) (by decide)).mpr h9)
              refine ps_st (S' := (195, [(4, .int (nI (l.length + 1))), (0, .ref m0), (1, .int (nI j)), (5, .int (nI p1)), (6, .int (nI (p + m))), (7, .int (nI (by1 f p1))), (8, .int (nI (moN (by1 f p1)))), (9, .int (nI i))], [.int (nI (by1 f p1)), .int (nI l.length), .ref (q 2)], M1)) rfl rfl rfl ?_
              refine ps_st (S' := (197, [(4, .int (nI (l.length + 1))), (0, .ref m0), (1, .int (nI j)), (5, .int (nI p1)), (6, .int (nI (p + m))), (7, .int (nI (by1 f p1))), (8, .int (nI (moN (by1 f p1)))), (9, .int (nI i))], [.int 15, .int (nI (by1 f p1)), .int (nI l.length), .ref (q 2)], M1)) rfl rfl rfl ?_
              refine ps_st (S' := (198, [(4, .int (nI (l.length + 1))), (0, .ref m0), (1, .int (nI j)), (5, .int (nI p1)), (6, .int (nI (p + m))), (7, .int (nI (by1 f p1))), (8, .int (nI (moN (by1 f p1)))), (9, .int (nI i))], [.int ((nI (by1 f p1)) &&& 15), .int (nI l.length), .ref (q 2)], M1)) rfl rfl rfl ?_
              refine ps_st (S' := (200, [(4, .int (nI (l.length + 1))), (0, .ref m0), (1, .int (nI j)), (5, .int (nI p1)), (6, .int (nI (p + m))), (7, .int (nI (by1 f p1))), (8, .int (nI (moN (by1 f p1)))), (9, .int (nI i))], [.int 12, .int ((nI (by1 f p1)) &&& 15), .int (nI l.length), .ref (q 2)], M1)) rfl rfl rfl ?_
              refine ps_st (S' := (201, [(4, .int (nI (l.length + 1))), (0, .ref m0), (1, .int (nI j)), (5, .int (nI p1)), (6, .int (nI (p + m))), (7, .int (nI (by1 f p1))), (8, .int (nI (moN (by1 f p1)))), (9, .int (nI i))], [.int (((nI (by1 f p1)) &&& 15) <<< (12 &&& 31)), .int (nI l.length), .ref (q 2)], M1)) rfl rfl rfl ?_
              have hq1 := hok 1 (by decide) (by omega)
              refine ps_st (S' := (202, [(4, .int (nI (l.length + 1))), (0, .ref m0), (1, .int (nI j)), (5, .int (nI p1)), (6, .int (nI (p + m))), (7, .int (nI (by1 f p1))), (8, .int (nI (moN (by1 f p1)))), (9, .int (nI i))], [.ref m0, .int (((nI (by1 f p1)) &&& 15) <<< (12 &&& 31)), .int (nI l.length), .ref (q 2)], M1)) rfl rfl rfl ?_
              refine ps_st (S' := (204, [(4, .int (nI (l.length + 1))), (0, .ref m0), (1, .int (nI j)), (5, .int (nI p1)), (6, .int (nI (p + m))), (7, .int (nI (by1 f p1))), (8, .int (nI (moN (by1 f p1)))), (9, .int (nI i))], [.int (nI p1), .ref m0, .int (((nI (by1 f p1)) &&& 15) <<< (12 &&& 31)), .int (nI l.length), .ref (q 2)], M1)) rfl rfl rfl ?_
              refine ps_st (S' := (205, [(4, .int (nI (l.length + 1))), (0, .ref m0), (1, .int (nI j)), (5, .int (nI p1)), (6, .int (nI (p + m))), (7, .int (nI (by1 f p1))), (8, .int (nI (moN (by1 f p1)))), (9, .int (nI i))], [.int 1, .int (nI p1), .ref m0, .int (((nI (by1 f p1)) &&& 15) <<< (12 &&& 31)), .int (nI l.length), .ref (q 2)], M1)) rfl rfl rfl ?_
              refine ps_st (S' := (206, [(4, .int (nI (l.length + 1))), (0, .ref m0), (1, .int (nI j)), (5, .int (nI p1)), (6, .int (nI (p + m))), (7, .int (nI (by1 f p1))), (8, .int (nI (moN (by1 f p1)))), (9, .int (nI i))], [.int ((nI p1) + 1), .ref m0, .int (((nI (by1 f p1)) &&& 15) <<< (12 &&& 31)), .int (nI l.length), .ref (q 2)], M1)) rfl rfl rfl ?_
              rw [nI_add1 (p := p1) (k := 1) (x := 1) rfl (by omega)]
              show pl _ _ _ (_, [(4, .int (nI (l.length + 1))), (0, .ref m0), (1, .int (nI j)), (5, .int (nI p1)), (6, .int (nI (p + m))), (7, .int (nI (by1 f p1))), (8, .int (nI (moN (by1 f p1)))), (9, .int (nI i))], [.int (nI (p1 + 1)), .ref m0, .int (((nI (by1 f p1)) &&& 15) <<< (12 &&& 31)), .int (nI l.length), .ref (q 2)], M1) _
              refine pl_call (a := [.ref m0, .int (nI (p1 + 1))]) (rest := [.int (((nI (by1 f p1)) &&& 15) <<< (12 &&& 31)), .int (nI l.length), .ref (q 2)]) rfl rfl rfl (rd_u1 (n := n) (f := f) (p := (p1 + 1)) hR1 hF1 (by omega)) (fun v78 M79 q80 => ?_)
              obtain ⟨rfl, rfl⟩ := q80
              show pl _ _ _ (209, [(4, .int (nI (l.length + 1))), (0, .ref m0), (1, .int (nI j)), (5, .int (nI p1)), (6, .int (nI (p + m))), (7, .int (nI (by1 f p1))), (8, .int (nI (moN (by1 f p1)))), (9, .int (nI i))], [.int (nI (by1 f (p1 + 1))), .int (((nI (by1 f p1)) &&& 15) <<< (12 &&& 31)), .int (nI l.length), .ref (q 2)], M1) _
              have hu_206 := by1_lt f (p1 + 1)
              refine ps_st (S' := (211, [(4, .int (nI (l.length + 1))), (0, .ref m0), (1, .int (nI j)), (5, .int (nI p1)), (6, .int (nI (p + m))), (7, .int (nI (by1 f p1))), (8, .int (nI (moN (by1 f p1)))), (9, .int (nI i))], [.int 63, .int (nI (by1 f (p1 + 1))), .int (((nI (by1 f p1)) &&& 15) <<< (12 &&& 31)), .int (nI l.length), .ref (q 2)], M1)) rfl rfl rfl ?_
              refine ps_st (S' := (212, [(4, .int (nI (l.length + 1))), (0, .ref m0), (1, .int (nI j)), (5, .int (nI p1)), (6, .int (nI (p + m))), (7, .int (nI (by1 f p1))), (8, .int (nI (moN (by1 f p1)))), (9, .int (nI i))], [.int ((nI (by1 f (p1 + 1))) &&& 63), .int (((nI (by1 f p1)) &&& 15) <<< (12 &&& 31)), .int (nI l.length), .ref (q 2)], M1)) rfl rfl rfl ?_
              refine ps_st (S' := (214, [(4, .int (nI (l.length + 1))), (0, .ref m0), (1, .int (nI j)), (5, .int (nI p1)), (6, .int (nI (p + m))), (7, .int (nI (by1 f p1))), (8, .int (nI (moN (by1 f p1)))), (9, .int (nI i))], [.int 6, .int ((nI (by1 f (p1 + 1))) &&& 63), .int (((nI (by1 f p1)) &&& 15) <<< (12 &&& 31)), .int (nI l.length), .ref (q 2)], M1)) rfl rfl rfl ?_
              refine ps_st (S' := (215, [(4, .int (nI (l.length + 1))), (0, .ref m0), (1, .int (nI j)), (5, .int (nI p1)), (6, .int (nI (p + m))), (7, .int (nI (by1 f p1))), (8, .int (nI (moN (by1 f p1)))), (9, .int (nI i))], [.int (((nI (by1 f (p1 + 1))) &&& 63) <<< (6 &&& 31)), .int (((nI (by1 f p1)) &&& 15) <<< (12 &&& 31)), .int (nI l.length), .ref (q 2)], M1)) rfl rfl rfl ?_
              refine ps_st (S' := (216, [(4, .int (nI (l.length + 1))), (0, .ref m0), (1, .int (nI j)), (5, .int (nI p1)), (6, .int (nI (p + m))), (7, .int (nI (by1 f p1))), (8, .int (nI (moN (by1 f p1)))), (9, .int (nI i))], [.int ((((nI (by1 f p1)) &&& 15) <<< (12 &&& 31)) ||| (((nI (by1 f (p1 + 1))) &&& 63) <<< (6 &&& 31))), .int (nI l.length), .ref (q 2)], M1)) rfl rfl rfl ?_
              have hq2 := hok 2 (by decide) (by omega)
              refine ps_st (S' := (217, [(4, .int (nI (l.length + 1))), (0, .ref m0), (1, .int (nI j)), (5, .int (nI p1)), (6, .int (nI (p + m))), (7, .int (nI (by1 f p1))), (8, .int (nI (moN (by1 f p1)))), (9, .int (nI i))], [.ref m0, .int ((((nI (by1 f p1)) &&& 15) <<< (12 &&& 31)) ||| (((nI (by1 f (p1 + 1))) &&& 63) <<< (6 &&& 31))), .int (nI l.length), .ref (q 2)], M1)) rfl rfl rfl ?_
              refine ps_st (S' := (219, [(4, .int (nI (l.length + 1))), (0, .ref m0), (1, .int (nI j)), (5, .int (nI p1)), (6, .int (nI (p + m))), (7, .int (nI (by1 f p1))), (8, .int (nI (moN (by1 f p1)))), (9, .int (nI i))], [.int (nI p1), .ref m0, .int ((((nI (by1 f p1)) &&& 15) <<< (12 &&& 31)) ||| (((nI (by1 f (p1 + 1))) &&& 63) <<< (6 &&& 31))), .int (nI l.length), .ref (q 2)], M1)) rfl rfl rfl ?_
              refine ps_st (S' := (220, [(4, .int (nI (l.length + 1))), (0, .ref m0), (1, .int (nI j)), (5, .int (nI p1)), (6, .int (nI (p + m))), (7, .int (nI (by1 f p1))), (8, .int (nI (moN (by1 f p1)))), (9, .int (nI i))], [.int 2, .int (nI p1), .ref m0, .int ((((nI (by1 f p1)) &&& 15) <<< (12 &&& 31)) ||| (((nI (by1 f (p1 + 1))) &&& 63) <<< (6 &&& 31))), .int (nI l.length), .ref (q 2)], M1)) rfl rfl rfl ?_
              refine ps_st (S' := (221, [(4, .int (nI (l.length + 1))), (0, .ref m0), (1, .int (nI j)), (5, .int (nI p1)), (6, .int (nI (p + m))), (7, .int (nI (by1 f p1))), (8, .int (nI (moN (by1 f p1)))), (9, .int (nI i))], [.int ((nI p1) + 2), .ref m0, .int ((((nI (by1 f p1)) &&& 15) <<< (12 &&& 31)) ||| (((nI (by1 f (p1 + 1))) &&& 63) <<< (6 &&& 31))), .int (nI l.length), .ref (q 2)], M1)) rfl rfl rfl ?_
              rw [nI_add1 (p := p1) (k := 2) (x := 2) rfl (by omega)]
              show pl _ _ _ (_, [(4, .int (nI (l.length + 1))), (0, .ref m0), (1, .int (nI j)), (5, .int (nI p1)), (6, .int (nI (p + m))), (7, .int (nI (by1 f p1))), (8, .int (nI (moN (by1 f p1)))), (9, .int (nI i))], [.int (nI (p1 + 2)), .ref m0, .int ((((nI (by1 f p1)) &&& 15) <<< (12 &&& 31)) ||| (((nI (by1 f (p1 + 1))) &&& 63) <<< (6 &&& 31))), .int (nI l.length), .ref (q 2)], M1) _
              refine pl_call (a := [.ref m0, .int (nI (p1 + 2))]) (rest := [.int ((((nI (by1 f p1)) &&& 15) <<< (12 &&& 31)) ||| (((nI (by1 f (p1 + 1))) &&& 63) <<< (6 &&& 31))), .int (nI l.length), .ref (q 2)]) rfl rfl rfl (rd_u1 (n := n) (f := f) (p := (p1 + 2)) hR1 hF1 (by omega)) (fun v81 M82 q83 => ?_)
              obtain ⟨rfl, rfl⟩ := q83
              show pl _ _ _ (224, [(4, .int (nI (l.length + 1))), (0, .ref m0), (1, .int (nI j)), (5, .int (nI p1)), (6, .int (nI (p + m))), (7, .int (nI (by1 f p1))), (8, .int (nI (moN (by1 f p1)))), (9, .int (nI i))], [.int (nI (by1 f (p1 + 2))), .int ((((nI (by1 f p1)) &&& 15) <<< (12 &&& 31)) ||| (((nI (by1 f (p1 + 1))) &&& 63) <<< (6 &&& 31))), .int (nI l.length), .ref (q 2)], M1) _
              have hu_221 := by1_lt f (p1 + 2)
              refine ps_st (S' := (226, [(4, .int (nI (l.length + 1))), (0, .ref m0), (1, .int (nI j)), (5, .int (nI p1)), (6, .int (nI (p + m))), (7, .int (nI (by1 f p1))), (8, .int (nI (moN (by1 f p1)))), (9, .int (nI i))], [.int 63, .int (nI (by1 f (p1 + 2))), .int ((((nI (by1 f p1)) &&& 15) <<< (12 &&& 31)) ||| (((nI (by1 f (p1 + 1))) &&& 63) <<< (6 &&& 31))), .int (nI l.length), .ref (q 2)], M1)) rfl rfl rfl ?_
              refine ps_st (S' := (227, [(4, .int (nI (l.length + 1))), (0, .ref m0), (1, .int (nI j)), (5, .int (nI p1)), (6, .int (nI (p + m))), (7, .int (nI (by1 f p1))), (8, .int (nI (moN (by1 f p1)))), (9, .int (nI i))], [.int ((nI (by1 f (p1 + 2))) &&& 63), .int ((((nI (by1 f p1)) &&& 15) <<< (12 &&& 31)) ||| (((nI (by1 f (p1 + 1))) &&& 63) <<< (6 &&& 31))), .int (nI l.length), .ref (q 2)], M1)) rfl rfl rfl ?_
              refine ps_st (S' := (228, [(0, .ref m0), (1, .int (nI j)), (4, .int (nI (l.length + 1))), (5, .int (nI p1)), (6, .int (nI (p + m))), (8, .int (nI (moN (by1 f p1))))], [.int (((((nI (by1 f p1)) &&& 15) <<< (12 &&& 31)) ||| (((nI (by1 f (p1 + 1))) &&& 63) <<< (6 &&& 31))) ||| ((nI (by1 f (p1 + 2))) &&& 63)), .int (nI l.length), .ref (q 2)], M1)) rfl rfl rfl ?_
              have hm9 : moN (by1 f p1) + 1 = 3 := by omega
              have hu8 := u8n_eq f p1 3
              refine pl_top (x := (((((nI (by1 f p1)) &&& 15) <<< (12 &&& 31)) ||| (((nI (by1 f (p1 + 1))) &&& 63) <<< (6 &&& 31))) ||| ((nI (by1 f (p1 + 2))) &&& 63))) (y := (nI (u8n f p1 3))) (hu8.1) ?_
              refine ps_st (S' := (229, [(0, .ref m0), (1, .int (nI j)), (4, .int (nI (l.length + 1))), (5, .int (nI p1)), (6, .int (nI (p + m))), (8, .int (nI (moN (by1 f p1))))], [.int (((nI (u8n f p1 3)).toUInt32 % 65536).toInt32), .int (nI l.length), .ref (q 2)], M1)) rfl rfl rfl ?_
              refine pl_top (x := (((nI (u8n f p1 3)).toUInt32 % 65536).toInt32)) (y := (nI (u8n f p1 3))) (i2c_nI hu8.2) ?_
              refine pr_st (a := 2) (j := l.length) rfl hR1 rfl (by omega) (fun M84 R85 i1_229 hR86 hS87 => ?_)
              have hF_88 := hF1.mono (fun _ _ => rfl) (rRx hS87 (by decide))
              have hY_89 := hY1.mono (fun _ _ => rfl) (rRx hS87 (by decide))
              have hK_90 := hK1.mono (fun _ _ => rfl) (rRx hS87 (by decide))
              have hER91 := hER1.st hS87 (by decide)
              show pl _ _ _ (230, [(0, .ref m0), (1, .int (nI j)), (4, .int (nI (l.length + 1))), (5, .int (nI p1)), (6, .int (nI (p + m))), (8, .int (nI (moN (by1 f p1))))], [], M84) _
              have hU_92 := hU1.snocL hS87 hu8.2
              rw [show l.length + 1 = (l ++ [u8n f p1 3]).length by simp] at hU_92
              rw [show nI (l.length + 1) = nI (l ++ [u8n f p1 3]).length from congrArg nI (by simp)]
              show pl _ _ _ (230, [(0, .ref m0), (1, .int (nI j)), (4, .int (nI (l ++ [u8n f p1 3]).length)), (5, .int (nI p1)), (6, .int (nI (p + m))), (8, .int (nI (moN (by1 f p1))))], [], M84) _
              refine ps_st (S' := (232, [(0, .ref m0), (1, .int (nI j)), (4, .int (nI (l ++ [u8n f p1 3]).length)), (5, .int (nI p1)), (6, .int (nI (p + m))), (8, .int (nI (moN (by1 f p1))))], [.int (nI p1)], M84)) rfl rfl rfl ?_
              refine ps_st (S' := (234, [(0, .ref m0), (1, .int (nI j)), (4, .int (nI (l ++ [u8n f p1 3]).length)), (5, .int (nI p1)), (6, .int (nI (p + m))), (8, .int (nI (moN (by1 f p1))))], [.int (nI (moN (by1 f p1))), .int (nI p1)], M84)) rfl rfl rfl ?_
              refine ps_st (S' := (235, [(0, .ref m0), (1, .int (nI j)), (4, .int (nI (l ++ [u8n f p1 3]).length)), (5, .int (nI p1)), (6, .int (nI (p + m))), (8, .int (nI (moN (by1 f p1))))], [.int 1, .int (nI (moN (by1 f p1))), .int (nI p1)], M84)) rfl rfl rfl ?_
              refine ps_st (S' := (236, [(0, .ref m0), (1, .int (nI j)), (4, .int (nI (l ++ [u8n f p1 3]).length)), (5, .int (nI p1)), (6, .int (nI (p + m))), (8, .int (nI (moN (by1 f p1))))], [.int ((nI (moN (by1 f p1))) + 1), .int (nI p1)], M84)) rfl rfl rfl ?_
              rw [nI_add1 (p := moN (by1 f p1)) (k := 1) (x := 1) rfl (by omega)]
              show pl _ _ _ (_, [(0, .ref m0), (1, .int (nI j)), (4, .int (nI (l ++ [u8n f p1 3]).length)), (5, .int (nI p1)), (6, .int (nI (p + m))), (8, .int (nI (moN (by1 f p1))))], [.int (nI (moN (by1 f p1) + 1)), .int (nI p1)], M84) _
              refine ps_st (S' := (237, [(0, .ref m0), (1, .int (nI j)), (4, .int (nI (l ++ [u8n f p1 3]).length)), (5, .int (nI p1)), (6, .int (nI (p + m))), (8, .int (nI (moN (by1 f p1))))], [.int ((nI p1) + (nI (moN (by1 f p1) + 1)))], M84)) rfl rfl rfl ?_
              rw [nI_add1 (p := p1) (k := moN (by1 f p1) + 1) (x := (nI (moN (by1 f p1) + 1))) rfl (by omega)]
              rw [show nI (p1 + (moN (by1 f p1) + 1)) = nI (p1 + moN (by1 f p1) + 1) from congrArg nI (by omega)]
              show pl _ _ _ (_, [(0, .ref m0), (1, .int (nI j)), (4, .int (nI (l ++ [u8n f p1 3]).length)), (5, .int (nI p1)), (6, .int (nI (p + m))), (8, .int (nI (moN (by1 f p1))))], [.int (nI (p1 + moN (by1 f p1) + 1))], M84) _
              refine pl_top (x := (nI (p1 + moN (by1 f p1) + 1))) (y := (nI (p1 + (moN (by1 f p1) + 1)))) (congrArg nI (by omega)) ?_
              refine ps_st (S' := (239, [(5, .int (nI (p1 + (moN (by1 f p1) + 1)))), (0, .ref m0), (1, .int (nI j)), (4, .int (nI (l ++ [u8n f p1 3]).length)), (6, .int (nI (p + m))), (8, .int (nI (moN (by1 f p1))))], [], M84)) rfl rfl rfl ?_
              refine ps_st (S' := (11, [(0, .ref m0), (1, .int (nI j)), (4, .int (nI (l ++ [u8n f p1 3]).length)), (5, .int (nI (p1 + (moN (by1 f p1) + 1)))), (6, .int (nI (p + m)))], [], M84)) rfl rfl rfl ?_
              have hk9 := u8k_ok (e := p + m) hg (fun j a b => hok j a (by omega))
              have hk10 := u8k_le (f := f) (e := p + m) hlt
              rw [hk9] at hk10
              exact ih.1 (p1 + (moN (by1 f p1) + 1)) (l ++ [u8n f p1 3]) M84 I1 R85 hR86 hEI1 hER91 hF_88 hY_89 hU_92 hK_90 (by rw [List.length_append]; show p ≤ _ ∧ _ ∧ l.length + 1 + _ ≤ m; omega) (by
                  rw [← hs, s_text_step (p := p1) (l := l) (by omega) (by omega), hk9, hm9])
            · have c_167 : ¬ (¬ (nI (moN (by1 f p1))) = 1) := of_decide_eq_false c_167
              have n_167 : moN (by1 f p1) = 1 := (eq_nI (p := moN (by1 f p1)) (n := 1) (by omega) (by decide)).mp (Decidable.not_not.mp c_167)
              refine ps_st (S' := (172, [(4, .int (nI (l.length + 1))), (0, .ref m0), (1, .int (nI j)), (5, .int (nI p1)), (6, .int (nI (p + m))), (7, .int (nI (by1 f p1))), (8, .int (nI (moN (by1 f p1)))), (9, .int (nI i))], [.int (nI (by1 f p1)), .int (nI l.length), .ref (q 2)], M1)) rfl rfl rfl ?_
              refine ps_st (S' := (174, [(4, .int (nI (l.length + 1))), (0, .ref m0), (1, .int (nI j)), (5, .int (nI p1)), (6, .int (nI (p + m))), (7, .int (nI (by1 f p1))), (8, .int (nI (moN (by1 f p1)))), (9, .int (nI i))], [.int 31, .int (nI (by1 f p1)), .int (nI l.length), .ref (q 2)], M1)) rfl rfl rfl ?_
              refine ps_st (S' := (175, [(4, .int (nI (l.length + 1))), (0, .ref m0), (1, .int (nI j)), (5, .int (nI p1)), (6, .int (nI (p + m))), (7, .int (nI (by1 f p1))), (8, .int (nI (moN (by1 f p1)))), (9, .int (nI i))], [.int ((nI (by1 f p1)) &&& 31), .int (nI l.length), .ref (q 2)], M1)) rfl rfl rfl ?_
              refine ps_st (S' := (177, [(4, .int (nI (l.length + 1))), (0, .ref m0), (1, .int (nI j)), (5, .int (nI p1)), (6, .int (nI (p + m))), (7, .int (nI (by1 f p1))), (8, .int (nI (moN (by1 f p1)))), (9, .int (nI i))], [.int 6, .int ((nI (by1 f p1)) &&& 31), .int (nI l.length), .ref (q 2)], M1)) rfl rfl rfl ?_
              refine ps_st (S' := (178, [(4, .int (nI (l.length + 1))), (0, .ref m0), (1, .int (nI j)), (5, .int (nI p1)), (6, .int (nI (p + m))), (7, .int (nI (by1 f p1))), (8, .int (nI (moN (by1 f p1)))), (9, .int (nI i))], [.int (((nI (by1 f p1)) &&& 31) <<< (6 &&& 31)), .int (nI l.length), .ref (q 2)], M1)) rfl rfl rfl ?_
              have hq1 := hok 1 (by decide) (by omega)
              refine ps_st (S' := (179, [(4, .int (nI (l.length + 1))), (0, .ref m0), (1, .int (nI j)), (5, .int (nI p1)), (6, .int (nI (p + m))), (7, .int (nI (by1 f p1))), (8, .int (nI (moN (by1 f p1)))), (9, .int (nI i))], [.ref m0, .int (((nI (by1 f p1)) &&& 31) <<< (6 &&& 31)), .int (nI l.length), .ref (q 2)], M1)) rfl rfl rfl ?_
              refine ps_st (S' := (181, [(4, .int (nI (l.length + 1))), (0, .ref m0), (1, .int (nI j)), (5, .int (nI p1)), (6, .int (nI (p + m))), (7, .int (nI (by1 f p1))), (8, .int (nI (moN (by1 f p1)))), (9, .int (nI i))], [.int (nI p1), .ref m0, .int (((nI (by1 f p1)) &&& 31) <<< (6 &&& 31)), .int (nI l.length), .ref (q 2)], M1)) rfl rfl rfl ?_
              refine ps_st (S' := (182, [(4, .int (nI (l.length + 1))), (0, .ref m0), (1, .int (nI j)), (5, .int (nI p1)), (6, .int (nI (p + m))), (7, .int (nI (by1 f p1))), (8, .int (nI (moN (by1 f p1)))), (9, .int (nI i))], [.int 1, .int (nI p1), .ref m0, .int (((nI (by1 f p1)) &&& 31) <<< (6 &&& 31)), .int (nI l.length), .ref (q 2)], M1)) rfl rfl rfl ?_
              refine ps_st (S' := (183, [(4, .int (nI (l.length + 1))), (0, .ref m0), (1, .int (nI j)), (5, .int (nI p1)), (6, .int (nI (p + m))), (7, .int (nI (by1 f p1))), (8, .int (nI (moN (by1 f p1)))), (9, .int (nI i))], [.int ((nI p1) + 1), .ref m0, .int (((nI (by1 f p1)) &&& 31) <<< (6 &&& 31)), .int (nI l.length), .ref (q 2)], M1)) rfl rfl rfl ?_
              rw [nI_add1 (p := p1) (k := 1) (x := 1) rfl (by omega)]
              show pl _ _ _ (_, [(4, .int (nI (l.length + 1))), (0, .ref m0), (1, .int (nI j)), (5, .int (nI p1)), (6, .int (nI (p + m))), (7, .int (nI (by1 f p1))), (8, .int (nI (moN (by1 f p1)))), (9, .int (nI i))], [.int (nI (p1 + 1)), .ref m0, .int (((nI (by1 f p1)) &&& 31) <<< (6 &&& 31)), .int (nI l.length), .ref (q 2)], M1) _
              refine pl_call (a := [.ref m0, .int (nI (p1 + 1))]) (rest := [.int (((nI (by1 f p1)) &&& 31) <<< (6 &&& 31)), .int (nI l.length), .ref (q 2)]) rfl rfl rfl (rd_u1 (n := n) (f := f) (p := (p1 + 1)) hR1 hF1 (by omega)) (fun v93 M94 q95 => ?_)
              obtain ⟨rfl, rfl⟩ := q95
              show pl _ _ _ (186, [(4, .int (nI (l.length + 1))), (0, .ref m0), (1, .int (nI j)), (5, .int (nI p1)), (6, .int (nI (p + m))), (7, .int (nI (by1 f p1))), (8, .int (nI (moN (by1 f p1)))), (9, .int (nI i))], [.int (nI (by1 f (p1 + 1))), .int (((nI (by1 f p1)) &&& 31) <<< (6 &&& 31)), .int (nI l.length), .ref (q 2)], M1) _
              have hu_183 := by1_lt f (p1 + 1)
              refine ps_st (S' := (188, [(4, .int (nI (l.length + 1))), (0, .ref m0), (1, .int (nI j)), (5, .int (nI p1)), (6, .int (nI (p + m))), (7, .int (nI (by1 f p1))), (8, .int (nI (moN (by1 f p1)))), (9, .int (nI i))], [.int 63, .int (nI (by1 f (p1 + 1))), .int (((nI (by1 f p1)) &&& 31) <<< (6 &&& 31)), .int (nI l.length), .ref (q 2)], M1)) rfl rfl rfl ?_
              refine ps_st (S' := (189, [(4, .int (nI (l.length + 1))), (0, .ref m0), (1, .int (nI j)), (5, .int (nI p1)), (6, .int (nI (p + m))), (7, .int (nI (by1 f p1))), (8, .int (nI (moN (by1 f p1)))), (9, .int (nI i))], [.int ((nI (by1 f (p1 + 1))) &&& 63), .int (((nI (by1 f p1)) &&& 31) <<< (6 &&& 31)), .int (nI l.length), .ref (q 2)], M1)) rfl rfl rfl ?_
              refine ps_st (S' := (190, [(4, .int (nI (l.length + 1))), (0, .ref m0), (1, .int (nI j)), (5, .int (nI p1)), (6, .int (nI (p + m))), (7, .int (nI (by1 f p1))), (8, .int (nI (moN (by1 f p1)))), (9, .int (nI i))], [.int ((((nI (by1 f p1)) &&& 31) <<< (6 &&& 31)) ||| ((nI (by1 f (p1 + 1))) &&& 63)), .int (nI l.length), .ref (q 2)], M1)) rfl rfl rfl ?_
              refine ps_st (S' := (228, [(0, .ref m0), (1, .int (nI j)), (4, .int (nI (l.length + 1))), (5, .int (nI p1)), (6, .int (nI (p + m))), (8, .int (nI (moN (by1 f p1))))], [.int ((((nI (by1 f p1)) &&& 31) <<< (6 &&& 31)) ||| ((nI (by1 f (p1 + 1))) &&& 63)), .int (nI l.length), .ref (q 2)], M1)) rfl rfl rfl ?_
              have hm9 : moN (by1 f p1) + 1 = 2 := by omega
              have hu8 := u8n_eq f p1 2
              refine pl_top (x := ((((nI (by1 f p1)) &&& 31) <<< (6 &&& 31)) ||| ((nI (by1 f (p1 + 1))) &&& 63))) (y := (nI (u8n f p1 2))) (hu8.1) ?_
              refine ps_st (S' := (229, [(0, .ref m0), (1, .int (nI j)), (4, .int (nI (l.length + 1))), (5, .int (nI p1)), (6, .int (nI (p + m))), (8, .int (nI (moN (by1 f p1))))], [.int (((nI (u8n f p1 2)).toUInt32 % 65536).toInt32), .int (nI l.length), .ref (q 2)], M1)) rfl rfl rfl ?_
              refine pl_top (x := (((nI (u8n f p1 2)).toUInt32 % 65536).toInt32)) (y := (nI (u8n f p1 2))) (i2c_nI hu8.2) ?_
              refine pr_st (a := 2) (j := l.length) rfl hR1 rfl (by omega) (fun M96 R97 i1_229 hR98 hS99 => ?_)
              have hF_100 := hF1.mono (fun _ _ => rfl) (rRx hS99 (by decide))
              have hY_101 := hY1.mono (fun _ _ => rfl) (rRx hS99 (by decide))
              have hK_102 := hK1.mono (fun _ _ => rfl) (rRx hS99 (by decide))
              have hER103 := hER1.st hS99 (by decide)
              show pl _ _ _ (230, [(0, .ref m0), (1, .int (nI j)), (4, .int (nI (l.length + 1))), (5, .int (nI p1)), (6, .int (nI (p + m))), (8, .int (nI (moN (by1 f p1))))], [], M96) _
              have hU_104 := hU1.snocL hS99 hu8.2
              rw [show l.length + 1 = (l ++ [u8n f p1 2]).length by simp] at hU_104
              rw [show nI (l.length + 1) = nI (l ++ [u8n f p1 2]).length from congrArg nI (by simp)]
              show pl _ _ _ (230, [(0, .ref m0), (1, .int (nI j)), (4, .int (nI (l ++ [u8n f p1 2]).length)), (5, .int (nI p1)), (6, .int (nI (p + m))), (8, .int (nI (moN (by1 f p1))))], [], M96) _
              refine ps_st (S' := (232, [(0, .ref m0), (1, .int (nI j)), (4, .int (nI (l ++ [u8n f p1 2]).length)), (5, .int (nI p1)), (6, .int (nI (p + m))), (8, .int (nI (moN (by1 f p1))))], [.int (nI p1)], M96)) rfl rfl rfl ?_
              refine ps_st (S' := (234, [(0, .ref m0), (1, .int (nI j)), (4, .int (nI (l ++ [u8n f p1 2]).length)), (5, .int (nI p1)), (6, .int (nI (p + m))), (8, .int (nI (moN (by1 f p1))))], [.int (nI (moN (by1 f p1))), .int (nI p1)], M96)) rfl rfl rfl ?_
              refine ps_st (S' := (235, [(0, .ref m0), (1, .int (nI j)), (4, .int (nI (l ++ [u8n f p1 2]).length)), (5, .int (nI p1)), (6, .int (nI (p + m))), (8, .int (nI (moN (by1 f p1))))], [.int 1, .int (nI (moN (by1 f p1))), .int (nI p1)], M96)) rfl rfl rfl ?_
              refine ps_st (S' := (236, [(0, .ref m0), (1, .int (nI j)), (4, .int (nI (l ++ [u8n f p1 2]).length)), (5, .int (nI p1)), (6, .int (nI (p + m))), (8, .int (nI (moN (by1 f p1))))], [.int ((nI (moN (by1 f p1))) + 1), .int (nI p1)], M96)) rfl rfl rfl ?_
              rw [nI_add1 (p := moN (by1 f p1)) (k := 1) (x := 1) rfl (by omega)]
              show pl _ _ _ (_, [(0, .ref m0), (1, .int (nI j)), (4, .int (nI (l ++ [u8n f p1 2]).length)), (5, .int (nI p1)), (6, .int (nI (p + m))), (8, .int (nI (moN (by1 f p1))))], [.int (nI (moN (by1 f p1) + 1)), .int (nI p1)], M96) _
              refine ps_st (S' := (237, [(0, .ref m0), (1, .int (nI j)), (4, .int (nI (l ++ [u8n f p1 2]).length)), (5, .int (nI p1)), (6, .int (nI (p + m))), (8, .int (nI (moN (by1 f p1))))], [.int ((nI p1) + (nI (moN (by1 f p1) + 1)))], M96)) rfl rfl rfl ?_
              rw [nI_add1 (p := p1) (k := moN (by1 f p1) + 1) (x := (nI (moN (by1 f p1) + 1))) rfl (by omega)]
              rw [show nI (p1 + (moN (by1 f p1) + 1)) = nI (p1 + moN (by1 f p1) + 1) from congrArg nI (by omega)]
              show pl _ _ _ (_, [(0, .ref m0), (1, .int (nI j)), (4, .int (nI (l ++ [u8n f p1 2]).length)), (5, .int (nI p1)), (6, .int (nI (p + m))), (8, .int (nI (moN (by1 f p1))))], [.int (nI (p1 + moN (by1 f p1) + 1))], M96) _
              refine pl_top (x := (nI (p1 + moN (by1 f p1) + 1))) (y := (nI (p1 + (moN (by1 f p1) + 1)))) (congrArg nI (by omega)) ?_
              refine ps_st (S' := (239, [(5, .int (nI (p1 + (moN (by1 f p1) + 1)))), (0, .ref m0), (1, .int (nI j)), (4, .int (nI (l ++ [u8n f p1 2]).length)), (6, .int (nI (p + m))), (8, .int (nI (moN (by1 f p1))))], [], M96)) rfl rfl rfl ?_
              refine ps_st (S' := (11, [(0, .ref m0), (1, .int (nI j)), (4, .int (nI (l ++ [u8n f p1 2]).length)), (5, .int (nI (p1 + (moN (by1 f p1) + 1)))), (6, .int (nI (p + m)))], [], M96)) rfl rfl rfl ?_
              have hk9 := u8k_ok (e := p + m) hg (fun j a b => hok j a (by omega))
              have hk10 := u8k_le (f := f) (e := p + m) hlt
              rw [hk9] at hk10
              exact ih.1 (p1 + (moN (by1 f p1) + 1)) (l ++ [u8n f p1 2]) M96 I1 R97 hR98 hEI1 hER103 hF_100 hY_101 hU_104 hK_102 (by rw [List.length_append]; show p ≤ _ ∧ _ ∧ l.length + 1 + _ ≤ m; omega) (by
                  rw [← hs, s_text_step (p := p1) (l := l) (by omega) (by omega), hk9, hm9])
          · have c_156 : ¬ (¬ (nI (moN (by1 f p1))) = 0) := of_decide_eq_false c_156
            have n_156 : moN (by1 f p1) = 0 := (eq_nI (p := moN (by1 f p1)) (n := 0) (by omega) (by decide)).mp (Decidable.not_not.mp c_156)
            refine ps_st (S' := (161, [(4, .int (nI (l.length + 1))), (0, .ref m0), (1, .int (nI j)), (5, .int (nI p1)), (6, .int (nI (p + m))), (7, .int (nI (by1 f p1))), (8, .int (nI (moN (by1 f p1)))), (9, .int (nI i))], [.int (nI (by1 f p1)), .int (nI l.length), .ref (q 2)], M1)) rfl rfl rfl ?_
            refine ps_st (S' := (228, [(0, .ref m0), (1, .int (nI j)), (4, .int (nI (l.length + 1))), (5, .int (nI p1)), (6, .int (nI (p + m))), (8, .int (nI (moN (by1 f p1))))], [.int (nI (by1 f p1)), .int (nI l.length), .ref (q 2)], M1)) rfl rfl rfl ?_
            have hm9 : moN (by1 f p1) + 1 = 1 := by omega
            have hu8 := u8n_eq f p1 1
            refine pl_top (x := (nI (by1 f p1))) (y := (nI (u8n f p1 1))) (hu8.1) ?_
            refine ps_st (S' := (229, [(0, .ref m0), (1, .int (nI j)), (4, .int (nI (l.length + 1))), (5, .int (nI p1)), (6, .int (nI (p + m))), (8, .int (nI (moN (by1 f p1))))], [.int (((nI (u8n f p1 1)).toUInt32 % 65536).toInt32), .int (nI l.length), .ref (q 2)], M1)) rfl rfl rfl ?_
            refine pl_top (x := (((nI (u8n f p1 1)).toUInt32 % 65536).toInt32)) (y := (nI (u8n f p1 1))) (i2c_nI hu8.2) ?_
            refine pr_st (a := 2) (j := l.length) rfl hR1 rfl (by omega) (fun M105 R106 i1_229 hR107 hS108 => ?_)
            have hF_109 := hF1.mono (fun _ _ => rfl) (rRx hS108 (by decide))
            have hY_110 := hY1.mono (fun _ _ => rfl) (rRx hS108 (by decide))
            have hK_111 := hK1.mono (fun _ _ => rfl) (rRx hS108 (by decide))
            have hER112 := hER1.st hS108 (by decide)
            show pl _ _ _ (230, [(0, .ref m0), (1, .int (nI j)), (4, .int (nI (l.length + 1))), (5, .int (nI p1)), (6, .int (nI (p + m))), (8, .int (nI (moN (by1 f p1))))], [], M105) _
            have hU_113 := hU1.snocL hS108 hu8.2
            rw [show l.length + 1 = (l ++ [u8n f p1 1]).length by simp] at hU_113
            rw [show nI (l.length + 1) = nI (l ++ [u8n f p1 1]).length from congrArg nI (by simp)]
            show pl _ _ _ (230, [(0, .ref m0), (1, .int (nI j)), (4, .int (nI (l ++ [u8n f p1 1]).length)), (5, .int (nI p1)), (6, .int (nI (p + m))), (8, .int (nI (moN (by1 f p1))))], [], M105) _
            refine ps_st (S' := (232, [(0, .ref m0), (1, .int (nI j)), (4, .int (nI (l ++ [u8n f p1 1]).length)), (5, .int (nI p1)), (6, .int (nI (p + m))), (8, .int (nI (moN (by1 f p1))))], [.int (nI p1)], M105)) rfl rfl rfl ?_
            refine ps_st (S' := (234, [(0, .ref m0), (1, .int (nI j)), (4, .int (nI (l ++ [u8n f p1 1]).length)), (5, .int (nI p1)), (6, .int (nI (p + m))), (8, .int (nI (moN (by1 f p1))))], [.int (nI (moN (by1 f p1))), .int (nI p1)], M105)) rfl rfl rfl ?_
            refine ps_st (S' := (235, [(0, .ref m0), (1, .int (nI j)), (4, .int (nI (l ++ [u8n f p1 1]).length)), (5, .int (nI p1)), (6, .int (nI (p + m))), (8, .int (nI (moN (by1 f p1))))], [.int 1, .int (nI (moN (by1 f p1))), .int (nI p1)], M105)) rfl rfl rfl ?_
            refine ps_st (S' := (236, [(0, .ref m0), (1, .int (nI j)), (4, .int (nI (l ++ [u8n f p1 1]).length)), (5, .int (nI p1)), (6, .int (nI (p + m))), (8, .int (nI (moN (by1 f p1))))], [.int ((nI (moN (by1 f p1))) + 1), .int (nI p1)], M105)) rfl rfl rfl ?_
            rw [nI_add1 (p := moN (by1 f p1)) (k := 1) (x := 1) rfl (by omega)]
            show pl _ _ _ (_, [(0, .ref m0), (1, .int (nI j)), (4, .int (nI (l ++ [u8n f p1 1]).length)), (5, .int (nI p1)), (6, .int (nI (p + m))), (8, .int (nI (moN (by1 f p1))))], [.int (nI (moN (by1 f p1) + 1)), .int (nI p1)], M105) _
            refine ps_st (S' := (237, [(0, .ref m0), (1, .int (nI j)), (4, .int (nI (l ++ [u8n f p1 1]).length)), (5, .int (nI p1)), (6, .int (nI (p + m))), (8, .int (nI (moN (by1 f p1))))], [.int ((nI p1) + (nI (moN (by1 f p1) + 1)))], M105)) rfl rfl rfl ?_
            rw [nI_add1 (p := p1) (k := moN (by1 f p1) + 1) (x := (nI (moN (by1 f p1) + 1))) rfl (by omega)]
            rw [show nI (p1 + (moN (by1 f p1) + 1)) = nI (p1 + moN (by1 f p1) + 1) from congrArg nI (by omega)]
            show pl _ _ _ (_, [(0, .ref m0), (1, .int (nI j)), (4, .int (nI (l ++ [u8n f p1 1]).length)), (5, .int (nI p1)), (6, .int (nI (p + m))), (8, .int (nI (moN (by1 f p1))))], [.int (nI (p1 + moN (by1 f p1) + 1))], M105) _
            refine pl_top (x := (nI (p1 + moN (by1 f p1) + 1))) (y := (nI (p1 + (moN (by1 f p1) + 1)))) (congrArg nI (by omega)) ?_
            refine ps_st (S' := (239, [(5, .int (nI (p1 + (moN (by1 f p1) + 1)))), (0, .ref m0), (1, .int (nI j)), (4, .int (nI (l ++ [u8n f p1 1]).length)), (6, .int (nI (p + m))), (8, .int (nI (moN (by1 f p1))))], [], M105)) rfl rfl rfl ?_
            refine ps_st (S' := (11, [(0, .ref m0), (1, .int (nI j)), (4, .int (nI (l ++ [u8n f p1 1]).length)), (5, .int (nI (p1 + (moN (by1 f p1) + 1)))), (6, .int (nI (p + m)))], [], M105)) rfl rfl rfl ?_
            have hk9 := u8k_ok (e := p + m) hg (fun j a b => hok j a (by omega))
            have hk10 := u8k_le (f := f) (e := p + m) hlt
            rw [hk9] at hk10
            exact ih.1 (p1 + (moN (by1 f p1) + 1)) (l ++ [u8n f p1 1]) M105 I1 R106 hR107 hEI1 hER112 hF_109 hY_110 hU_113 hK_111 (by rw [List.length_append]; show p ≤ _ ∧ _ ∧ l.length + 1 + _ ≤ m; omega) (by
                rw [← hs, s_text_step (p := p1) (l := l) (by omega) (by omega), hk9, hm9])
        · have c_98 : ¬ ((nI (moN (by1 f p1))) < (nI i)) := of_decide_eq_false c_98
          have n_98 : ¬ (moN (by1 f p1) < i) := fun h9 => c_98 ((lt_nI (p := moN (by1 f p1)) (n := i) (by omega) (by omega)).mpr h9)
          refine ps_st (S' := (103, [(0, .ref m0), (1, .int (nI j)), (4, .int (nI l.length)), (5, .int (nI p1)), (6, .int (nI (p + m))), (7, .int (nI (by1 f p1))), (8, .int (nI (moN (by1 f p1)))), (9, .int (nI i))], [.int (nI p1)], M1)) rfl rfl rfl ?_
          refine ps_st (S' := (105, [(0, .ref m0), (1, .int (nI j)), (4, .int (nI l.length)), (5, .int (nI p1)), (6, .int (nI (p + m))), (7, .int (nI (by1 f p1))), (8, .int (nI (moN (by1 f p1)))), (9, .int (nI i))], [.int (nI i), .int (nI p1)], M1)) rfl rfl rfl ?_
          refine ps_st (S' := (106, [(0, .ref m0), (1, .int (nI j)), (4, .int (nI l.length)), (5, .int (nI p1)), (6, .int (nI (p + m))), (7, .int (nI (by1 f p1))), (8, .int (nI (moN (by1 f p1)))), (9, .int (nI i))], [.int ((nI p1) + (nI i))], M1)) rfl rfl rfl ?_
          rw [nI_add1 (p := p1) (k := i) (x := (nI i)) rfl (by omega)]
          show pl _ _ _ (_, [(0, .ref m0), (1, .int (nI j)), (4, .int (nI l.length)), (5, .int (nI p1)), (6, .int (nI (p + m))), (7, .int (nI (by1 f p1))), (8, .int (nI (moN (by1 f p1)))), (9, .int (nI i))], [.int (nI (p1 + i))], M1) _
          refine ps_st (S' := (108, [(0, .ref m0), (1, .int (nI j)), (4, .int (nI l.length)), (5, .int (nI p1)), (6, .int (nI (p + m))), (7, .int (nI (by1 f p1))), (8, .int (nI (moN (by1 f p1)))), (9, .int (nI i))], [.int (nI (p + m)), .int (nI (p1 + i))], M1)) rfl rfl rfl ?_
          refine ps_if2 (S1 := (130, [(0, .ref m0), (5, .int (nI p1))], [], M1)) (S2 := (111, [(0, .ref m0), (1, .int (nI j)), (4, .int (nI l.length)), (5, .int (nI p1)), (6, .int (nI (p + m))), (7, .int (nI (by1 f p1))), (8, .int (nI (moN (by1 f p1)))), (9, .int (nI i))], [], M1)) rfl rfl rfl (fun c_108 => ?_) (fun c_108 => ?_)
          · have c_108 : (nI (p + m)) ≤ (nI (p1 + i)) := of_decide_eq_true c_108
            have n_108 : p + m ≤ p1 + i := (le_nI (p := p + m) (n := p1 + i) (by omega) (by omega)).mp c_108
            refine ps_st (S' := (131, [(0, .ref m0), (5, .int (nI p1))], [.ref m0], M1)) rfl rfl rfl ?_
            refine ps_st (S' := (133, [(0, .ref m0), (5, .int (nI p1))], [.int 6, .ref m0], M1)) rfl rfl rfl ?_
            refine ps_st (S' := (135, [(0, .ref m0), (5, .int (nI p1))], [.int (nI p1), .int 6, .ref m0], M1)) rfl rfl rfl ?_
            refine pl_call (a := [.ref m0, .int 6, .int (nI p1)]) (rest := []) rfl rfl rfl (rd_wrong (x1 := 6) (x2 := (nI p1)) hR1) (fun v114 M115 q116 => ?_)
            obtain ⟨I117, R118, rfl, hR119, hI120, hX121, hi122, hi123⟩ := q116
            have hF_124 := hF1.mono (cIx hI120 (by decide)) (cRx hX121 (by decide))
            have hY_125 := hY1.mono (cIx hI120 (by decide)) (cRx hX121 (by decide))
            have hU_126 := hU1.mono (cIx hI120 (by decide)) (cRx hX121 (by decide))
            have hK_127 := hK1.mono (cIx hI120 (by decide)) (cRx hX121 (by decide))
            have hEI128 := hEI1.tr hI120 (by decide)
            have hER129 := hER1.tr hX121 (by decide)
            show pl _ _ _ (138, [(0, .ref m0), (5, .int (nI p1))], [.int 0], M115) _
            exact ps_ret rfl rfl (Or.inr ⟨p1, I117, R118, by
                rw [← hs]
                exact s_text_bad (by omega) (u8k_bad hg (i := i) (by omega) hok (by omega)), rfl, hR119, hEI128, hER129, hi122, hi123⟩)
          · have c_108 : ¬ ((nI (p + m)) ≤ (nI (p1 + i))) := of_decide_eq_false c_108
            have n_108 : ¬ (p + m ≤ p1 + i) := fun h9 => c_108 ((le_nI (p := p + m) (n := p1 + i) (by omega) (by omega)).mpr h9)
            refine ps_st (S' := (112, [(0, .ref m0), (1, .int (nI j)), (4, .int (nI l.length)), (5, .int (nI p1)), (6, .int (nI (p + m))), (7, .int (nI (by1 f p1))), (8, .int (nI (moN (by1 f p1)))), (9, .int (nI i))], [.ref m0], M1)) rfl rfl rfl ?_
            refine ps_st (S' := (114, [(0, .ref m0), (1, .int (nI j)), (4, .int (nI l.length)), (5, .int (nI p1)), (6, .int (nI (p + m))), (7, .int (nI (by1 f p1))), (8, .int (nI (moN (by1 f p1)))), (9, .int (nI i))], [.int (nI p1), .ref m0], M1)) rfl rfl rfl ?_
            refine ps_st (S' := (116, [(0, .ref m0), (1, .int (nI j)), (4, .int (nI l.length)), (5, .int (nI p1)), (6, .int (nI (p + m))), (7, .int (nI (by1 f p1))), (8, .int (nI (moN (by1 f p1)))), (9, .int (nI i))], [.int (nI i), .int (nI p1), .ref m0], M1)) rfl rfl rfl ?_
            refine ps_st (S' := (117, [(0, .ref m0), (1, .int (nI j)), (4, .int (nI l.length)), (5, .int (nI p1)), (6, .int (nI (p + m))), (7, .int (nI (by1 f p1))), (8, .int (nI (moN (by1 f p1)))), (9, .int (nI i))], [.int ((nI p1) + (nI i)), .ref m0], M1)) rfl rfl rfl ?_
            rw [nI_add1 (p := p1) (k := i) (x := (nI i)) rfl (by omega)]
            show pl _ _ _ (_, [(0, .ref m0), (1, .int (nI j)), (4, .int (nI l.length)), (5, .int (nI p1)), (6, .int (nI (p + m))), (7, .int (nI (by1 f p1))), (8, .int (nI (moN (by1 f p1)))), (9, .int (nI i))], [.int (nI (p1 + i)), .ref m0], M1) _
            refine pl_call (a := [.ref m0, .int (nI (p1 + i))]) (rest := []) rfl rfl rfl (rd_u1 (n := n) (f := f) (p := (p1 + i)) hR1 hF1 (by omega)) (fun v130 M131 q132 => ?_)
            obtain ⟨rfl, rfl⟩ := q132
            show pl _ _ _ (120, [(0, .ref m0), (1, .int (nI j)), (4, .int (nI l.length)), (5, .int (nI p1)), (6, .int (nI (p + m))), (7, .int (nI (by1 f p1))), (8, .int (nI (moN (by1 f p1)))), (9, .int (nI i))], [.int (nI (by1 f (p1 + i)))], M1) _
            have hu_117 := by1_lt f (p1 + i)
            refine ps_st (S' := (123, [(0, .ref m0), (1, .int (nI j)), (4, .int (nI l.length)), (5, .int (nI p1)), (6, .int (nI (p + m))), (7, .int (nI (by1 f p1))), (8, .int (nI (moN (by1 f p1)))), (9, .int (nI i))], [.int 192, .int (nI (by1 f (p1 + i)))], M1)) rfl rfl rfl ?_
            refine ps_st (S' := (124, [(0, .ref m0), (1, .int (nI j)), (4, .int (nI l.length)), (5, .int (nI p1)), (6, .int (nI (p + m))), (7, .int (nI (by1 f p1))), (8, .int (nI (moN (by1 f p1)))), (9, .int (nI i))], [.int ((nI (by1 f (p1 + i))) &&& 192)], M1)) rfl rfl rfl ?_
            rw [nI_an (p := by1 f (p1 + i)) (k := 192) (x := 192) rfl]
            show pl _ _ _ (_, [(0, .ref m0), (1, .int (nI j)), (4, .int (nI l.length)), (5, .int (nI p1)), (6, .int (nI (p + m))), (7, .int (nI (by1 f p1))), (8, .int (nI (moN (by1 f p1)))), (9, .int (nI i))], [.int (nI (aN (by1 f (p1 + i)) 192))], M1) _
            refine ps_st (S' := (127, [(0, .ref m0), (1, .int (nI j)), (4, .int (nI l.length)), (5, .int (nI p1)), (6, .int (nI (p + m))), (7, .int (nI (by1 f p1))), (8, .int (nI (moN (by1 f p1)))), (9, .int (nI i))], [.int 128, .int (nI (aN (by1 f (p1 + i)) 192))], M1)) rfl rfl rfl ?_
            refine ps_if2 (S1 := (139, [(0, .ref m0), (1, .int (nI j)), (4, .int (nI l.length)), (5, .int (nI p1)), (6, .int (nI (p + m))), (7, .int (nI (by1 f p1))), (8, .int (nI (moN (by1 f p1)))), (9, .int (nI i))], [], M1)) (S2 := (130, [(0, .ref m0), (5, .int (nI p1))], [], M1)) rfl rfl rfl (fun c_127 => ?_) (fun c_127 => ?_)
            · have c_127 : (nI (aN (by1 f (p1 + i)) 192)) = 128 := of_decide_eq_true c_127
              have n_127 : aN (by1 f (p1 + i)) 192 = 128 := (eq_nI (p := aN (by1 f (p1 + i)) 192) (n := 128) (Nat.lt_of_le_of_lt (an_le _ _) (by decide)) (by decide)).mp c_127
              refine ps_st (S' := (142, [(9, .int ((nI i) + 1)), (0, .ref m0), (1, .int (nI j)), (4, .int (nI l.length)), (5, .int (nI p1)), (6, .int (nI (p + m))), (7, .int (nI (by1 f p1))), (8, .int (nI (moN (by1 f p1))))], [], M1)) rfl rfl rfl ?_
              rw [nI_add1 (p := i) (k := 1) (x := 1) rfl (by omega)]
              show pl _ _ _ (_, [(9, .int (nI (i + 1))), (0, .ref m0), (1, .int (nI j)), (4, .int (nI l.length)), (5, .int (nI p1)), (6, .int (nI (p + m))), (7, .int (nI (by1 f p1))), (8, .int (nI (moN (by1 f p1))))], [], M1) _
              refine ps_st (S' := (94, [(0, .ref m0), (1, .int (nI j)), (4, .int (nI l.length)), (5, .int (nI p1)), (6, .int (nI (p + m))), (7, .int (nI (by1 f p1))), (8, .int (nI (moN (by1 f p1)))), (9, .int (nI (i + 1)))], [], M1)) rfl rfl rfl ?_
              exact ih.2 (p1) (l) (i + 1) M1 I1 R1 hR1 hEI1 hER1 hF1 hY1 hU1 hK1 (hp1) (hs) (hlt) (hg) (by omega) (by
                  intro j a b
                  by_cases e : j = i
                  · rw [e]; exact ⟨by omega, by omega⟩
                  · exact hok j a (by omega))
            · have c_127 : ¬ ((nI (aN (by1 f (p1 + i)) 192)) = 128) := of_decide_eq_false c_127
              have n_127 : ¬ (aN (by1 f (p1 + i)) 192 = 128) := fun h9 => c_127 ((eq_nI (p := aN (by1 f (p1 + i)) 192) (n := 128) (Nat.lt_of_le_of_lt (an_le _ _) (by decide)) (by decide)).mpr h9)
              refine ps_st (S' := (131, [(0, .ref m0), (5, .int (nI p1))], [.ref m0], M1)) rfl rfl rfl ?_
              refine ps_st (S' := (133, [(0, .ref m0), (5, .int (nI p1))], [.int 6, .ref m0], M1)) rfl rfl rfl ?_
              refine ps_st (S' := (135, [(0, .ref m0), (5, .int (nI p1))], [.int (nI p1), .int 6, .ref m0], M1)) rfl rfl rfl ?_
              refine pl_call (a := [.ref m0, .int 6, .int (nI p1)]) (rest := []) rfl rfl rfl (rd_wrong (x1 := 6) (x2 := (nI p1)) hR1) (fun v133 M134 q135 => ?_)
              obtain ⟨I136, R137, rfl, hR138, hI139, hX140, hi141, hi142⟩ := q135
              have hF_143 := hF1.mono (cIx hI139 (by decide)) (cRx hX140 (by decide))
              have hY_144 := hY1.mono (cIx hI139 (by decide)) (cRx hX140 (by decide))
              have hU_145 := hU1.mono (cIx hI139 (by decide)) (cRx hX140 (by decide))
              have hK_146 := hK1.mono (cIx hI139 (by decide)) (cRx hX140 (by decide))
              have hEI147 := hEI1.tr hI139 (by decide)
              have hER148 := hER1.tr hX140 (by decide)
              show pl _ _ _ (138, [(0, .ref m0), (5, .int (nI p1))], [.int 0], M134) _
              exact ps_ret rfl rfl (Or.inr ⟨p1, I136, R137, by
                  rw [← hs]
                  exact s_text_bad (by omega) (u8k_bad hg (i := i) (by omega) hok (by omega)), rfl, hR138, hEI147, hER148, hi141, hi142⟩)
  refine ps_st (S' := (1, [(0, .ref m0), (1, .int (nI j)), (2, .int (nI p)), (3, .int (nI m))], [.int 0], M)) rfl rfl rfl ?_
  refine ps_st (S' := (3, [(4, .int 0), (0, .ref m0), (1, .int (nI j)), (2, .int (nI p)), (3, .int (nI m))], [], M)) rfl rfl rfl ?_
  refine ps_st (S' := (4, [(4, .int 0), (0, .ref m0), (1, .int (nI j)), (2, .int (nI p)), (3, .int (nI m))], [.int (nI p)], M)) rfl rfl rfl ?_
  refine ps_st (S' := (6, [(5, .int (nI p)), (4, .int 0), (0, .ref m0), (1, .int (nI j)), (2, .int (nI p)), (3, .int (nI m))], [], M)) rfl rfl rfl ?_
  refine ps_st (S' := (7, [(5, .int (nI p)), (4, .int 0), (0, .ref m0), (1, .int (nI j)), (2, .int (nI p)), (3, .int (nI m))], [.int (nI p)], M)) rfl rfl rfl ?_
  refine ps_st (S' := (8, [(5, .int (nI p)), (4, .int 0), (0, .ref m0), (1, .int (nI j)), (2, .int (nI p)), (3, .int (nI m))], [.int (nI m), .int (nI p)], M)) rfl rfl rfl ?_
  refine ps_st (S' := (9, [(5, .int (nI p)), (4, .int 0), (0, .ref m0), (1, .int (nI j)), (2, .int (nI p)), (3, .int (nI m))], [.int ((nI p) + (nI m))], M)) rfl rfl rfl ?_
  rw [nI_add1 (p := p) (k := m) (x := (nI m)) rfl (by omega)]
  show pl _ _ _ (_, [(5, .int (nI p)), (4, .int 0), (0, .ref m0), (1, .int (nI j)), (2, .int (nI p)), (3, .int (nI m))], [.int (nI (p + m))], M) _
  refine ps_st (S' := (11, [(0, .ref m0), (1, .int (nI j)), (4, .int 0), (5, .int (nI p)), (6, .int (nI (p + m)))], [], M)) rfl rfl rfl ?_
  exact (LL kf).1 (p) ([]) M I R hR hEI hER hF hY CUW.nil hK (by simp) (by
      rw [show p + m - p = m by omega])
end
