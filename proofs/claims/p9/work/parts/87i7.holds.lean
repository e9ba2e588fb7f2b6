/-! the pool's view, all checks, the whole file, read (laid by wip/p4/d17.py) -/
section PWA
variable {g : xe_G} {M M' : mi_H}
theorem LT.keep {S : List Nat} (h : LT g M) (hf : gm S M M') (hs : n7 S M) : LT g M' :=
  h.move hf.2 (fun z o hl hc ho => hf.1 z hl (fun hz => by
    obtain ⟨ci, l, e, h2⟩ := hs z hz
    have e2 : o.1 = ci := by
      rw [hc] at e
      simp only [ob, Option.some.injEq, Sum.inr.injEq] at e
      rw [e]
    omega))
theorem LT.put {a ci : Nat} {l : List Value} (h : LT g M) (ha : M.1 a = some (ob ci l)) (hc : ¬ ci = 7 ∧ ci < 100) (hf : ∀ z, z ≠ a → M'.1 z = M.1 z) (hz : M'.2 = M.2) : LT g M' :=
  h.keep (S := [a]) ⟨fun z _ h9 => hf z (fun e => h9 (by rw [e]; exact List.mem_cons_self)), by rw [hz]; exact Nat.le_refl _⟩ (n7c ha hc n7nil)
theorem LT.new {a : Nat} (h : LT g M) (ht : M.2.1 = a) (hf : ∀ z, z ≠ a → M'.1 z = M.1 z) (hz : M'.2.1 = a + 1) : LT g M' :=
  h.keep (S := []) ⟨fun z hl _ => hf z (by omega), by omega⟩ n7nil
theorem LT.keepX {a k : Nat} {ty : FieldType} {G : Nat → Int32} (h : LT g M) (hf : gm [a] M M') (ha : M.1 a = some (ar ty k G)) : LT g M' :=
  h.move hf.2 (fun z o hl hc ho => hf.1 z hl (fun hz => by
    have : z = a := by simpa using hz
    rw [this, ha] at hc
    cases hc))
theorem MV.keepX {f : Nat → Int32} {B : List Nat} {mm k a j : Nat} {G : Nat → Nat} {ty : FieldType} {F : Nat → Int32} (h : MV f B mm G k M) (hf : gm [a] M M') (ha : M.1 a = some (ar ty j F)) (ht : ¬ ty = .object "ClassGate$Member") : MV f B mm G k M' := by
  obtain ⟨R, hR, -⟩ := h.2.1
  refine h.move hf.2 (fun C n R' e => hf.1 mm h.1 (fun hz => ?_)) (fun i hi x1 x2 x3 x4 v e => ⟨x1, x2, x3, x4, v, (hf.1 _ (h.2.2.2 i hi).1 (fun hz => ?_)).trans e, fun _ => ⟨rfl, rfl, rfl, rfl, rfl⟩⟩)
  · have h1 : mm = a := by simpa using hz
    exact ar_ro ha hR ht h1.symm
  · have h1 : G i = a := by simpa using hz
    rw [h1, ha] at e
    cases e
/-- the pool as it was read, ahead of its texts' shapes -/
def PW (g : xe_G) (f : Nat → Int32) (n N : Nat) (E : List (Nat × Nat)) (q : Nat) (M : mi_H) : Prop :=
  LT g M ∧ ∃ (H m : Nat) (qq : Nat → Nat) (F : Nat → Nat → Int32) (cc : Int32), PL M q (nI N) H m qq F cc ∧ txt H m F cc ∧ (q < M.2.1 ∧ ∀ i, 1 ≤ i → i ≤ 6 → qq i < M.2.1) ∧ (H ≤ 65536 ∧ m ≤ 65540 ∧ N < 65536 ∧ cc = nI (chL f n E)) ∧ VF f n E H m F ∧ (∀ i, 1 ≤ i → i ≤ 4 → ¬ qq i = qq 5)
theorem PW.qlt {f : Nat → Int32} {n N q : Nat} {E : List (Nat × Nat)} (h : PW g f n N E q M) : q < M.2.1 := by
  obtain ⟨-, H, m, qq, F, cc, -, -, hB, -⟩ := h
  exact hB.1
theorem PW.move {f : Nat → Int32} {n N q : Nat} {E : List (Nat × Nat)} (h : PW g f n N E q M) (hz : M.2.1 ≤ M'.2.1) (hm : ∀ z, z < M.2.1 → (∀ ci l, M.1 z = some (ob ci l) → ci = 7 ∨ 100 ≤ ci) → (∀ o, M.1 z = some (.inr o) → o.1 = 7 ∨ 100 ≤ o.1) → M'.1 z = M.1 z) : PW g f n N E q M' := by
  obtain ⟨hL, H, m, qq, F, cc, ⟨a0, a1, a6⟩, hT, ⟨b0, b1⟩, h3⟩ := h
  have ha : ∀ {z n : Nat} {ty : FieldType} {F : Nat → Int32}, z < M.2.1 → M.1 z = some (ar ty n F) → M'.1 z = some (ar ty n F) := fun hl hc => (hm _ hl (fun ci l h9 => by rw [hc] at h9; cases h9) (fun o h9 => by rw [hc] at h9; cases h9)).trans hc
  have h7 : M'.1 q = M.1 q := hm q b0 (fun ci l h9 => by rw [a0] at h9; simp only [ob, Option.some.injEq, Sum.inr.injEq, Prod.mk.injEq] at h9; exact Or.inl h9.1.symm) (fun o h9 => by rw [a0] at h9; cases h9; exact Or.inl rfl)
  exact ⟨hL.move hz (fun z o hl hc ho => hm z hl (fun ci l h9 => by rw [hc] at h9; cases h9; exact Or.inr ho) (fun o' h9 => by rw [hc] at h9; cases h9; exact Or.inr ho)), H, m, qq, F, cc, ⟨h7.trans a0, fun i h1 h2 => ha (b1 i h1 (by omega)) (a1 i h1 h2), ha (b1 6 (by decide) (by decide)) a6⟩, hT, ⟨by omega, fun i h1 h2 => Nat.lt_of_lt_of_le (b1 i h1 h2) hz⟩, h3⟩
theorem PW.keep {f : Nat → Int32} {n N q : Nat} {E : List (Nat × Nat)} {S : List Nat} (h : PW g f n N E q M) (hf : gm S M M') (hs : n7 S M) : PW g f n N E q M' :=
  h.move hf.2 (fun z hl h1 _ => hf.1 z hl (fun hz => by
    obtain ⟨ci, l, e, h2⟩ := hs z hz
    rcases h1 ci l e with h3 | h3 <;> omega))
theorem PW.put {f : Nat → Int32} {n N q a ci : Nat} {l : List Value} {E : List (Nat × Nat)} (h : PW g f n N E q M) (ha : M.1 a = some (ob ci l)) (hc : ¬ ci = 7 ∧ ci < 100) (hf : ∀ z, z ≠ a → M'.1 z = M.1 z) (hz : M'.2 = M.2) : PW g f n N E q M' :=
  h.move (by rw [hz]; exact Nat.le_refl _) (fun z hl h1 _ => hf z (fun e => by
    subst e
    rcases h1 ci l ha with h3 | h3 <;> omega))
theorem PW.new {f : Nat → Int32} {n N q a : Nat} {E : List (Nat × Nat)} (h : PW g f n N E q M) (ht : M.2.1 = a) (hf : ∀ z, z ≠ a → M'.1 z = M.1 z) (hz : M'.2.1 = a + 1) : PW g f n N E q M' :=
  h.move (by omega) (fun z hl _ _ => hf z (by omega))
theorem PL5 {q H m : Nat} {sz cc : Int32} {qq : Nat → Nat} {F : Nat → Nat → Int32} {G : Nat → Int32} (h0 : M.1 q = some (ob 7 [.int sz, .ref (qq 1), .ref (qq 2), .ref (qq 3), .ref (qq 4), .ref (qq 5), .ref (qq 6), .int cc])) (h1 : M.1 (qq 1) = some (ar .int H (F 1))) (h2 : M.1 (qq 2) = some (ar .int H (F 2))) (h3 : M.1 (qq 3) = some (ar .int H (F 3))) (h4 : M.1 (qq 4) = some (ar .int H (F 4))) (h5 : M.1 (qq 5) = some (ar .int H G)) (h6 : M.1 (qq 6) = some (ar .char m (F 6))) : PL M q sz H m qq (fun i => if i = 5 then G else F i) cc := by
  refine ⟨h0, fun i a b => ?_, h6⟩
  have hi : i = 1 ∨ i = 2 ∨ i = 3 ∨ i = 4 ∨ i = 5 := by omega
  rcases hi with rfl | rfl | rfl | rfl | rfl
  · exact h1
  · exact h2
  · exact h3
  · exact h4
  · exact h5
theorem upd_shk {G : Nat → Int32} {k j : Nat} {x : Int32} (h : k < 1073741824) : upd G (Int32.toNatClampNeg (nI k)) x j = if j = k then x else G j := by
  rw [nI_toNat h]
  rfl
theorem PV_of {f : Nat → Int32} {n N q H m : Nat} {E : List (Nat × Nat)} {qq : Nat → Nat} {F : Nat → Nat → Int32} {G : Nat → Int32} {cc : Int32} (hL : LT g M') (hP : PL M' q (nI N) H m qq (fun i => if i = 5 then G else F i) cc) (hT : txt H m F cc) (hB : q < M.2.1 ∧ ∀ i, 1 ≤ i → i ≤ 6 → qq i < M.2.1) (hz : M'.2 = M.2) (hb : H ≤ 65536 ∧ m ≤ 65540 ∧ N < 65536 ∧ cc = nI (chL f n E)) (hF : VF f n E H m F) (hs : ∀ j, j < H → tg f E j = 1 → G j = shI (shN (tX f n E j))) : PV g f n N E q M' := by
  refine ⟨hL, H, m, qq, _, cc, hP, hT, by rw [hz]; exact hB, hb, hF, fun j hj => ?_⟩
  show G j = _
  refine hs j (Nat.not_le.mp (fun h9 => ?_)) hj
  rw [hF.2.1 j h9] at hj
  cases hj
end PWA
section PWB
theorem s_entry_le {f : Nat → Int32} {n mj N k p p' : Nat} {x : (List Nat) ⊕ (Option (Nat × Nat))} (h : s_entry f n mj N k p = .inr (p', x)) : p + 1 ≤ n ∧ p + 3 ≤ p' ∧ (by1 f p = 5 ∨ by1 f p = 6 → p + 9 ≤ p') := by
  have h0 : p + 1 ≤ n := by
    unfold s_entry at h
    split at h
    · cases h
    · omega
  refine ⟨h0, ?_⟩
  rcases x with l | o
  · obtain ⟨h1, h2, h3⟩ := s_entry_txt h
    omega
  · cases o with
    | none =>
      have h1 := s_entry_pl h
      omega
    | some xy =>
      obtain ⟨a, b⟩ := xy
      obtain ⟨h1, h2⟩ := s_entry_ix h
      have h3 := s_ix_le h1
      omega
theorem s_ents_k {f : Nat → Int32} {n mj N : Nat} : ∀ {r k p p' : Nat} {E0 E : List (Nat × Nat)}, 1 ≤ k ∧ 7 + 3 * k ≤ p → (∀ q ∈ E0, q.1 < N ∧ q.1 < n / 3 + 1) → s_ents f n mj N r k p E0 = .inr (p', E) → ∀ q ∈ E, q.1 < N ∧ q.1 < n / 3 + 1 := by
  intro r
  induction r with
  | zero => intro k p p' E0 E hk h0 h; cases h; exact h0
  | succ r ih =>
    intro k p p' E0 E hk h0 h
    unfold s_ents at h
    split at h
    · cases h; exact h0
    · rename_i hN
      cases he : s_entry f n mj N k p with
      | inl e => rw [he] at h; cases h
      | inr y =>
        obtain ⟨p2, x⟩ := y
        rw [he] at h
        have h1 := s_entry_le he
        refine ih (k := if by1 f p = 5 ∨ by1 f p = 6 then k + 2 else k + 1) ?_ ?_ h
        · split <;> omega
        · intro q hq
          rcases List.mem_append.mp hq with hq | hq
          · exact h0 q hq
          · have e : q = (k, p) := by simpa using hq
            rw [e]
            show k < N ∧ k < n / 3 + 1
            omega
theorem s_pool_k {f : Nat → Int32} {n mj p' : Nat} {E : List (Nat × Nat)} (h : s_pool f n mj = .inr (p', E)) : ∀ q ∈ E, q.1 < hldC f n := by
  unfold s_pool at h
  split at h
  · cases h
  · split at h
    · cases h
    · intro q hq
      have h1 := s_ents_k (by omega) (fun q hq => by cases hq) h q hq
      unfold hldC
      omega
theorem s_ix_v {f : Nat → Int32} {n p p' x y : Nat} (h : s_ix f n (by1 f p) (p + 1) = .inr (p', x, y)) (h7 : 7 ≤ by1 f p) : x = ixa f p ∧ y = ixb f p := by
  unfold s_ix at h
  unfold ixa ixb
  have e7 : ¬ by1 f p < 7 := by omega
  rw [if_neg e7, if_neg e7]
  split at h
  · rename_i h1
    rw [if_pos h1, if_pos h1]
    split at h
    · cases h
    · split at h
      · cases h
      · cases h
        exact ⟨rfl, rfl⟩
  · rename_i h1
    rw [if_neg h1, if_neg h1]
    split at h
    · cases h
    · split at h
      · rename_i h2
        rw [if_pos h2]
        cases h
        exact ⟨rfl, rfl⟩
      · rename_i h2
        rw [if_neg h2]
        split at h
        · cases h
        · cases h
          exact ⟨rfl, rfl⟩
def Fp (F1 F2 F3 F4 F6 : Nat → Int32) : Nat → Nat → Int32 := fun i => if i = 1 then F1 else if i = 2 then F2 else if i = 3 then F3 else if i = 4 then F4 else if i = 6 then F6 else fun _ => 0
theorem PW_of {g : xe_G} {M : mi_H} {f : Nat → Int32} {n mj q p' cc : Nat} {E : List (Nat × Nat)} {F1 F2 F3 F4 F6 : Nat → Int32} (hL : LT g M) (hn : n ≤ 65540) (hs : s_pool f n mj = .inr (p', E)) (hc : poolC f n F1 F2 F3 F4 F6 cc (by2 f 8) E) (he : p' ≤ n ∧ cc ≤ p' ∧ 10 ≤ n) (hcs : cc = chL f n E)
    (h0 : M.1 q = some (ob 7 [.int (nI (by2 f 8)), .ref (q + 1), .ref (q + 2), .ref (q + 3), .ref (q + 4), .ref (q + 5), .ref (q + 6), .int (nI cc)])) (h1 : M.1 (q + 1) = some (ar .int (hldC f n) F1)) (h2 : M.1 (q + 2) = some (ar .int (hldC f n) F2)) (h3 : M.1 (q + 3) = some (ar .int (hldC f n) F3)) (h4 : M.1 (q + 4) = some (ar .int (hldC f n) F4)) (h5 : M.1 (q + 5) = some (ar .int (hldC f n) (fun _ => 0))) (h6 : M.1 (q + 6) = some (ar .char n F6)) (hq : q + 6 < M.2.1) : PW g f n (by2 f 8) E q M := by
  have hu := by2_lt f 8
  have hH : hldC f n ≤ 65536 := by unfold hldC; omega
  have t1 : ∀ j, F1 j = nI (tg f E j) := fun j => by
    unfold tg
    cases hk : lk E j with
    | none => exact hc.2 j (lk_no hk)
    | some p => exact (hc.1 _ (lk_in hk)).2.1
  have t5 : ∀ j, tg f E j = 1 → ∃ c, F3 j = nI c ∧ F4 j = nI (tX f n E j).length ∧ c + (tX f n E j).length ≤ cc ∧ ∀ i, i < (tX f n E j).length → F6 (c + i) = nI ((tX f n E j).getD i 0) := fun j hj => by
    unfold tg at hj
    unfold tX
    cases hk : lk E j with
    | none => rw [hk] at hj; cases hj
    | some p =>
      rw [hk] at hj
      dsimp only at hj ⊢
      rw [if_pos hj]
      obtain ⟨l, c, e1, e2, e3, e4, e5⟩ := (hc.1 _ (lk_in hk)).2.2.2.1 hj
      rw [e1]
      exact ⟨c, e2, e3, e4, e5⟩
  refine ⟨hL, hldC f n, n, fun i => q + i, Fp F1 F2 F3 F4 F6, nI cc, ⟨h0, fun i a b => ?_, h6⟩, ?_, ⟨by omega, fun i a b => by show q + i < M.2.1; omega⟩, ⟨hH, hn, hu, by rw [hcs]⟩, ⟨t1, fun j hj => ?_, fun j p hp => ?_, fun j hj => ?_, fun j hj => ?_⟩, fun i a b e => ?_⟩
  · have hi : i = 1 ∨ i = 2 ∨ i = 3 ∨ i = 4 ∨ i = 5 := by omega
    rcases hi with rfl | rfl | rfl | rfl | rfl
    · exact h1
    · exact h2
    · exact h3
    · exact h4
    · exact h5
  · refine ⟨by rw [nI_val (by omega)]; omega, by rw [nI_val (by omega)]; omega, fun k hk e1 => ?_⟩
    have e2 : F1 k = 1 := e1
    rw [t1 k] at e2
    have ht := tg_lt f E k
    have e3 : tg f E k = 1 := (eq_nI (p := tg f E k) (n := 1) (by omega) (by decide)).mp e2
    obtain ⟨c, a1, a2, a3, -⟩ := t5 k e3
    show 0 ≤ (F3 k).toInt ∧ 0 ≤ (F4 k).toInt ∧ (F3 k).toInt + (F4 k).toInt ≤ (nI cc).toInt
    rw [a1, a2, nI_val (by omega), nI_val (by omega), nI_val (by omega)]
    omega
  · unfold tg
    cases hk : lk E j with
    | none => rfl
    | some p =>
      have := s_pool_k hs _ (lk_in hk)
      exact absurd this (by show ¬ j < hldC f n; omega)
  · exact (hc.1 _ (lk_in hp)).2.2.1
  · show F3 j = _ ∧ F4 j = _
    unfold tg at hj
    unfold fi se
    cases hk : lk E j with
    | none => rw [hk] at hj; exact absurd hj (by show ¬ 7 ≤ 0; decide)
    | some p =>
      rw [hk] at hj
      dsimp only at hj ⊢
      obtain ⟨p2, x, y, e1, e2, e3⟩ := (hc.1 _ (lk_in hk)).2.2.2.2 hj
      obtain ⟨rfl, rfl⟩ := s_ix_v e1 hj
      exact ⟨e2, e3⟩
  · obtain ⟨c, a1, a2, a3, a4⟩ := t5 j hj
    exact ⟨c, a1, a2, by omega, a4⟩
  · have : q + i = q + 5 := e
    omega
theorem s_head_8 {f : Nat → Int32} {n : Nat} (h : s_head f n = (0, 0)) : 8 ≤ n := by
  unfold s_head at h
  repeat' split at h
  all_goals first | omega | (simp at h; done)
theorem s_two_in {n : Nat} : ∀ {c p x : Nat}, s_two n c p = .inr x → x = p + 2 * c ∧ (p ≤ n → x ≤ n) := by
  intro c
  induction c with
  | zero => intro p x h; cases h; omega
  | succ c ih =>
    intro p x h
    unfold s_two at h
    split at h
    · cases h
    · have := ih h
      omega
theorem s_class_in {f : Nat → Int32} {n p x : Nat} (h : s_class f n p = .inr x) : p + 8 + 2 * by2 f (p + 6) ≤ n ∧ x = p + 8 + 2 * by2 f (p + 6) := by
  unfold s_class at h
  split at h
  · cases h
  · split at h
    · cases h
    · split at h
      · cases h
      · split at h
        · cases h
        · have := s_two_in h
          omega
theorem s_mems_le {f : Nat → Int32} {n : Nat} : ∀ {c p x : Nat}, p ≤ n → s_mems f n c p = .inr x → p ≤ x ∧ x ≤ n := by
  intro c
  induction c with
  | zero => intro p x hp h; cases h; omega
  | succ c ih =>
    intro p x hp h
    unfold s_mems at h
    split at h
    · cases h
    · split at h
      · cases h
      · split at h
        · cases h
        · cases ha : s_attributes f n (p + 6) with
          | inl e => rw [ha] at h; cases h
          | inr y =>
            rw [ha] at h
            have h1 := s_attributes_le2 ha
            have h2 := ih (by omega) h
            omega
theorem s_mbs_le {f : Nat → Int32} {n p x : Nat} (h : s_mbs f n p = .inr x) : p + 2 ≤ x ∧ x ≤ n := by
  unfold s_mbs at h
  split at h
  · cases h
  · have := s_mems_le (by omega) h
    omega
theorem mbs_of {f : Nat → Int32} {n p x : Nat} (h : s_mbs f n p = .inr x) : (mbs f n (by2 f p) (p + 2)).length = by2 f p ∧ ∀ i, i < (mbs f n (by2 f p) (p + 2)).length → (mbs f n (by2 f p) (p + 2)).getD i 0 + 8 ≤ n ∧ ∃ e0, s_atts f n (by2 f ((mbs f n (by2 f p) (p + 2)).getD i 0 + 6)) ((mbs f n (by2 f p) (p + 2)).getD i 0 + 8) = .inr e0 := by
  unfold s_mbs at h
  split at h
  · cases h
  · exact mbs_in h
theorem s_atts_of {f : Nat → Int32} {n p x : Nat} (h : s_attributes f n p = .inr x) : p + 2 ≤ n ∧ s_atts f n (by2 f p) (p + 2) = .inr x := by
  unfold s_attributes at h
  split at h
  · cases h
  · exact ⟨by omega, h⟩
end PWB
section PWC
variable (f : Nat → Int32) (n : Nat)
def s_chk (N : Nat) (E : List (Nat × Nat)) (mj fa ic : Nat) (B1 B2 : List Nat) (na pa : Nat) : Option (Nat × Nat) :=
  match chkP f n E mj (N - 1) 1 with
  | some e => some e
  | none => match hdS f n E fa with
    | some e => some e
    | none => match ifS f n E (fa + 8) ic 0 with
      | some e => some e
      | none => match flS f n E (by2 f fa) B1 B1.length 0 with
        | some e => some e
        | none => match mtS f n E (by2 f fa) mj B2 B2.length 0 with
          | some e => some e
          | none => match clS f n E (by2 f fa) mj na pa 0 0 with
            | .inl e => some e
            | .inr bc => chkB f E bc (N - 1) 1
def s_whole : (Nat × Nat) ⊕ (List (Nat × Nat) × Nat × Nat × Nat × Nat) :=
  if ¬ (s_head f n).1 = 0 then .inl (s_head f n) else match s_pool f n (by2 f 6) with
  | .inl e => .inl e
  | .inr (p1, E) => match s_class f n p1 with
    | .inl e => .inl e
    | .inr pF => match s_mbs f n pF with
      | .inl e => .inl e
      | .inr pM => match s_mbs f n pM with
        | .inl e => .inl e
        | .inr pA => match s_end f n pA with
          | some e => .inl e
          | none => .inr (E, p1, pF, pM, pA)
/-- the rule that a file breaks, with its place; none: it is kept -/
def s_read : Option (Nat × Nat) := match s_whole f n with
  | .inl e => some e
  | .inr (E, p1, pF, pM, pA) => s_chk f n (by2 f 8) E (by2 f 6) p1 (by2 f (p1 + 6)) (mbs f n (by2 f pF) (pF + 2)) (mbs f n (by2 f pM) (pM + 2)) (by2 f pA) (pA + 2)
end PWC
def rdR (o : Option (Nat × Nat)) : Int32 := match o with
  | none => 0
  | some e => nI e.1
def rdP (o : Option (Nat × Nat)) : Int32 := match o with
  | none => -1
  | some e => nI e.2
theorem s_read_1 {f : Nat → Int32} {n : Nat} {e : Nat × Nat} (h : s_whole f n = .inl e) : s_read f n = some e := by
  unfold s_read
  rw [h]
theorem s_read_2 {f : Nat → Int32} {n p1 pF pM pA : Nat} {E : List (Nat × Nat)} {o : Option (Nat × Nat)} (h : s_whole f n = .inr (E, p1, pF, pM, pA)) (h2 : s_chk f n (by2 f 8) E (by2 f 6) p1 (by2 f (p1 + 6)) (mbs f n (by2 f pF) (pF + 2)) (mbs f n (by2 f pM) (pM + 2)) (by2 f pA) (pA + 2) = o) : s_read f n = o := by
  unfold s_read
  rw [h]
  exact h2
theorem dk_takesHead {g : xe_G} {M : mi_H} {r c b vd da n : Nat} {f : Nat → Int32} {it ru wa mi ma fa ic ac aa k1 k2 k3 k4 k5 k6 k7 : Int32} {u1 u6 u7 : Value} (h_r : M.1 r = some (ob 9 [.ref c, .ref b, .ref vd, .int (nI 0), .int it])) (h_b : M.1 b = some (ob 1 [.ref da])) (h_da : M.1 da = some (ar .byte n f)) (h_vd : M.1 vd = some (ob 10 [.int ru, .int wa])) (h_c : M.1 c = some (ob 3 [.ref b, u1, .int mi, .int ma, .int fa, .int ic, u6, u7, .int ac, .int aa, .int k1, .int k2, .int k3, .int k4, .int k5, .int k6, .int k7])) (hn : n ≤ 65540) : pt (mT g) 165 [.ref r] M (fun v M' => ((s_head f n = (0, 0)) ∧ v = some (.int 1) ∧ M'.1 r = some (ob 9 [.ref c, .ref b, .ref vd, .int (nI 8), .int (nI (by2 f 6))]) ∧ M'.1 vd = some (ob 10 [.int ru, .int wa]) ∧ M'.1 c = some (ob 3 [.ref b, u1, .int (nI (by2 f 4)), .int (nI (by2 f 6)), .int fa, .int ic, u6, u7, .int ac, .int aa, .int k1, .int k2, .int k3, .int k4, .int k5, .int k6, .int k7]) ∧ fm [r, vd, c] M M') ∨ (∃ (e1 e2 : Nat), (s_head f n = (e1, e2)) ∧ (¬ e1 = 0) ∧ v = some (.int 0) ∧ M'.1 vd = some (ob 10 [.int (nI e1), .int (nI e2)]) ∧ fm [r, vd, c] M M')) := dx_takesHead h_r h_b h_da h_vd h_c hn
theorem dk_takesPool {g : xe_G} {M : mi_H} {r c b vd da n mj : Nat} {f : Nat → Int32} {it ru wa mi fa ic ac aa k1 k2 k3 k4 k5 k6 k7 : Int32} {u1 u6 u7 : Value} (h_r : M.1 r = some (ob 9 [.ref c, .ref b, .ref vd, .int (nI 8), .int it])) (h_b : M.1 b = some (ob 1 [.ref da])) (h_da : M.1 da = some (ar .byte n f)) (h_vd : M.1 vd = some (ob 10 [.int ru, .int wa])) (h_c : M.1 c = some (ob 3 [.ref b, u1, .int mi, .int (nI mj), .int fa, .int ic, u6, u7, .int ac, .int aa, .int k1, .int k2, .int k3, .int k4, .int k5, .int k6, .int k7])) (hn : n ≤ 65540) (h8 : 8 ≤ n) (hj : mj < 65536) (l_r : r < M.2.1) (l_b : b < M.2.1) (l_da : da < M.2.1) (l_vd : vd < M.2.1) (l_c : c < M.2.1) : pt (mT g) 169 [.ref r] M (fun v M' => (∃ (p' cc : Nat) (it' : Int32) (E : List (Nat × Nat)) (F1 F2 F3 F4 F6 : Nat → Int32), (s_pool f n mj = .inr (p', E)) ∧ (poolC f n F1 F2 F3 F4 F6 cc (by2 f 8) E) ∧ (p' ≤ n ∧ cc ≤ p' ∧ 10 ≤ n) ∧ (cc = chL f n E) ∧ v = some (.int 1) ∧ M'.1 r = some (ob 9 [.ref c, .ref b, .ref vd, .int (nI p'), .int it']) ∧ M'.1 vd = some (ob 10 [.int ru, .int wa]) ∧ M'.1 c = some (ob 3 [.ref b, .ref (M.2.1), .int mi, .int (nI mj), .int fa, .int ic, u6, u7, .int ac, .int aa, .int k1, .int k2, .int k3, .int k4, .int k5, .int k6, .int k7]) ∧ M'.1 (M.2.1) = some (ob 7 [.int (nI (by2 f 8)), .ref (M.2.1 + 1), .ref (M.2.1 + 2), .ref (M.2.1 + 3), .ref (M.2.1 + 4), .ref (M.2.1 + 5), .ref (M.2.1 + 6), .int (nI cc)]) ∧ M'.1 (M.2.1 + 1) = some (ar .int (hldC f n) F1) ∧ M'.1 (M.2.1 + 2) = some (ar .int (hldC f n) F2) ∧ M'.1 (M.2.1 + 3) = some (ar .int (hldC f n) F3) ∧ M'.1 (M.2.1 + 4) = some (ar .int (hldC f n) F4) ∧ M'.1 (M.2.1 + 5) = some (ar .int (hldC f n) (fun _ => 0)) ∧ M'.1 (M.2.1 + 6) = some (ar .char n F6) ∧ gm [r, vd, c] M M' ∧ M'.2.1 = M.2.1 + 7) ∨ (∃ (e : Nat × Nat), (s_pool f n mj = .inl e) ∧ v = some (.int 0) ∧ M'.1 vd = some (ob 10 [.int (nI e.1), .int (nI e.2)]) ∧ gm [r, vd, c] M M' ∧ M.2.1 ≤ M'.2.1)) := dx_takesPool h_r h_b h_da h_vd h_c hn h8 hj l_r l_b l_da l_vd l_c
theorem dk_takesClass {g : xe_G} {M : mi_H} {r c b vd da n p q : Nat} {f : Nat → Int32} {it ru wa mi ma fa ic ac aa k1 k2 k3 k4 k5 k6 k7 : Int32} {u6 u7 : Value} (h_r : M.1 r = some (ob 9 [.ref c, .ref b, .ref vd, .int (nI p), .int it])) (h_b : M.1 b = some (ob 1 [.ref da])) (h_da : M.1 da = some (ar .byte n f)) (h_vd : M.1 vd = some (ob 10 [.int ru, .int wa])) (h_c : M.1 c = some (ob 3 [.ref b, .ref q, .int mi, .int ma, .int fa, .int ic, u6, u7, .int ac, .int aa, .int k1, .int k2, .int k3, .int k4, .int k5, .int k6, .int k7])) (hn : n ≤ 65540) (hp : p ≤ n) : pt (mT g) 161 [.ref r] M (fun v M' => (∃ (p' : Nat) (it' : Int32), (s_class f n p = .inr p') ∧ v = some (.int 1) ∧ M'.1 r = some (ob 9 [.ref c, .ref b, .ref vd, .int (nI p'), .int it']) ∧ M'.1 vd = some (ob 10 [.int ru, .int wa]) ∧ M'.1 c = some (ob 3 [.ref b, .ref q, .int mi, .int ma, .int (nI p), .int (nI (by2 f (p + 6))), u6, u7, .int ac, .int aa, .int k1, .int k2, .int k3, .int k4, .int k5, .int k6, .int k7]) ∧ fm [r, vd, c] M M') ∨ (∃ (e : Nat × Nat), (s_class f n p = .inl e) ∧ v = some (.int 0) ∧ M'.1 vd = some (ob 10 [.int (nI e.1), .int (nI e.2)]) ∧ fm [r, vd, c] M M')) := dx_takesClass h_r h_b h_da h_vd h_c hn hp
theorem dk_pool {g : xe_G} {M : mi_H} {pq N n : Nat} (h_pq : M.1 pq = some (ob 7 [.int 0, .null, .null, .null, .null, .null, .null, .int 0])) (hq : pq < M.2.1) (hN : N < 65536) (hn : n ≤ 65540) : pt (mT g) 110 [.ref pq, .int (nI N), .int (nI n)] M (fun v M' => (v = none ∧ M'.1 pq = some (ob 7 [.int (nI N), .ref (M.2.1), .ref (M.2.1 + 1), .ref (M.2.1 + 2), .ref (M.2.1 + 3), .ref (M.2.1 + 4), .ref (M.2.1 + 5), .int 0]) ∧ M'.1 (M.2.1) = some (ar .int (min N (n / 3 + 1)) (fun _ => 0)) ∧ M'.1 (M.2.1 + 1) = some (ar .int (min N (n / 3 + 1)) (fun _ => 0)) ∧ M'.1 (M.2.1 + 2) = some (ar .int (min N (n / 3 + 1)) (fun _ => 0)) ∧ M'.1 (M.2.1 + 3) = some (ar .int (min N (n / 3 + 1)) (fun _ => 0)) ∧ M'.1 (M.2.1 + 4) = some (ar .int (min N (n / 3 + 1)) (fun _ => 0)) ∧ M'.1 (M.2.1 + 5) = some (ar .char n (fun _ => 0)) ∧ gm [pq] M M' ∧ M'.2.1 = M.2.1 + 6)) := dx_pool h_pq hq hN hn
set_option maxHeartbeats 1000000 in
theorem dk_describeTexts {g : xe_G} {M : mi_H} {f : Nat → Int32} {n N H m q : Nat} {E : List (Nat × Nat)} {qq : Nat → Nat} {F : Nat → Nat → Int32} {cc : Int32} (h_q : M.1 q = some (ob 7 [.int (nI N), .ref (qq 1), .ref (qq 2), .ref (qq 3), .ref (qq 4), .ref (qq 5), .ref (qq 6), .int cc])) (h_qq_1 : M.1 (qq 1) = some (ar .int H (F 1))) (h_qq_2 : M.1 (qq 2) = some (ar .int H (F 2))) (h_qq_3 : M.1 (qq 3) = some (ar .int H (F 3))) (h_qq_4 : M.1 (qq 4) = some (ar .int H (F 4))) (h_qq_5 : M.1 (qq 5) = some (ar .int H (F 5))) (h_qq_6 : M.1 (qq 6) = some (ar .char m (F 6))) (hH : H ≤ 65536 ∧ m ≤ 65540) (hVF : VF f n E H m F) (hD : ∀ i, 1 ≤ i → i ≤ 4 → ¬ qq i = qq 5) : pt (mT g) 114 [.ref q] M (fun v M' => (∃ (G5 : Nat → Int32), (∀ j, j < H → tg f E j = 1 → G5 j = shI (shN (tX f n E j))) ∧ v = none ∧ M'.1 (qq 5) = some (ar .int H G5) ∧ fm [qq 5] M M')) := by
  refine pt_in (b := mb_114 g) rfl (fun kf => ?_)
  show pl (mT g) kf (mb_114 g).2 (0, [(0, .ref q)], [], M) _
  have hF : fm [qq 5] M M := fm.rf
  have LL : ∀ (kf : Nat), (∀ (k : Nat) (G : Nat → Int32) (M1 : mi_H), (M1.1 q = some (ob 7 [.int (nI N), .ref (qq 1), .ref (qq 2), .ref (qq 3), .ref (qq 4), .ref (qq 5), .ref (qq 6), .int cc])) → (M1.1 (qq 1) = some (ar .int H (F 1))) → (M1.1 (qq 2) = some (ar .int H (F 2))) → (M1.1 (qq 3) = some (ar .int H (F 3))) → (M1.1 (qq 4) = some (ar .int H (F 4))) → (M1.1 (qq 5) = some (ar .int H G)) → (M1.1 (qq 6) = some (ar .char m (F 6))) → (fm [qq 5] M M1) → (k ≤ H) → (∀ j, j < k → tg f E j = 1 → G j = shI (shN (tX f n E j))) →  pl (mT g) kf (mb_114 g).2 (2, [(0, .ref q), (1, .int (nI k))], [], M1) (fun v M' => (∃ (G5 : Nat → Int32), (∀ j, j < H → tg f E j = 1 → G5 j = shI (shN (tX f n E j))) ∧ v = none ∧ M'.1 (qq 5) = some (ar .int H G5) ∧ fm [qq 5] M M'))) := by
    intro kf
    induction kf with
    | zero => exact (by intros; exact pl_0)
    | succ kf ih =>
      intro k G M1 hl_q hl_qq_1 hl_qq_2 hl_qq_3 hl_qq_4 hl_qq_5 hl_qq_6 hF1 hk hs
      refine ps_st1 (S' := (3, [(0, .ref q), (1, .int (nI k))], [.int (nI k)], M1)) rfl rfl rfl ?_
      refine ps_st (S' := (4, [(0, .ref q), (1, .int (nI k))], [.ref q, .int (nI k)], M1)) rfl rfl rfl ?_
      refine ps_get (S' := (7, [(0, .ref q), (1, .int (nI k))], [.ref (qq 1), .int (nI k)], M1)) rfl hl_q rfl rfl ?_
      refine ps_alen (S' := (8, [(0, .ref q), (1, .int (nI k))], [.int (nI H), .int (nI k)], M1)) rfl hl_qq_1 rfl ?_
      refine ps_if2 (S1 := (56, [(0, .ref q), (1, .int (nI k))], [], M1)) (S2 := (11, [(0, .ref q), (1, .int (nI k))], [], M1)) rfl rfl rfl (fun c_8 => ?_) (fun c_8 => ?_)
      · have c_8 : (nI H) ≤ (nI k) := of_decide_eq_true c_8
        have n_8 : H ≤ k := (le_nI (p := H) (n := k) (by omega) (by omega)).mp c_8
        exact ps_ret rfl rfl (⟨_, fun j hj h1 => hs j (by omega) h1, rfl, hl_qq_5, hF1⟩)
      · have c_8 : ¬ ((nI H) ≤ (nI k)) := of_decide_eq_false c_8
        have n_8 : ¬ (H ≤ k) := fun h9 => c_8 ((le_nI (p := H) (n := k) (by omega) (by omega)).mpr h9)
        refine ps_st (S' := (12, [(0, .ref q), (1, .int (nI k))], [.ref q], M1)) rfl rfl rfl ?_
        refine ps_get (S' := (15, [(0, .ref q), (1, .int (nI k))], [.ref (qq 1)], M1)) rfl hl_q rfl rfl ?_
        refine ps_st (S' := (16, [(0, .ref q), (1, .int (nI k))], [.int (nI k), .ref (qq 1)], M1)) rfl rfl rfl ?_
        refine ps_ald (S' := (17, [(0, .ref q), (1, .int (nI k))], [.int ((F 1) (Int32.toNatClampNeg (nI k)))], M1)) rfl hl_qq_1 rfl (fun i0_16 i1_16 => ?_)
        rw [show ((F 1) (Int32.toNatClampNeg (nI k))) = (nI (tg f E k)) from (congrArg (F 1) (nI_toNat (k := k) (by omega))).trans (hVF.1 k)]
        show pl _ _ _ (_, [(0, .ref q), (1, .int (nI k))], [.int (nI (tg f E k))], M1) _
        refine ps_st (S' := (18, [(0, .ref q), (1, .int (nI k))], [.int 1, .int (nI (tg f E k))], M1)) rfl rfl rfl ?_
        refine ps_if2 (S1 := (50, [(0, .ref q), (1, .int (nI k))], [], M1)) (S2 := (21, [(0, .ref q), (1, .int (nI k))], [], M1)) rfl rfl rfl (fun c_18 => ?_) (fun c_18 => ?_)
        · have c_18 : ¬ (nI (tg f E k)) = 1 := of_decide_eq_true c_18
          have n_18 : ¬ (tg f E k = 1) := fun h9 => c_18 ((eq_nI (p := tg f E k) (n := 1) (Nat.lt_trans (tg_lt _ _ _) (by decide)) (by decide)).mpr h9)
          refine ps_st (S' := (53, [(1, .int ((nI k) + 1)), (0, .ref q)], [], M1)) rfl rfl rfl ?_
          rw [nI_add1 (p := k) (k := 1) (x := 1) rfl (by omega)]
          show pl _ _ _ (_, [(1, .int (nI (k + 1))), (0, .ref q)], [], M1) _
          refine ps_st (S' := (2, [(0, .ref q), (1, .int (nI (k + 1)))], [], M1)) rfl rfl rfl ?_
          exact ih (k + 1) (G) M1 hl_q hl_qq_1 hl_qq_2 hl_qq_3 hl_qq_4 hl_qq_5 hl_qq_6 hF1 (by omega) (fun j hj h1 => by
              by_cases h2 : j = k
              · rw [h2] at h1; exact absurd h1 n_18
              · exact hs j (by omega) h1)
        · have c_18 : ¬ (¬ (nI (tg f E k)) = 1) := of_decide_eq_false c_18
          have n_18 : tg f E k = 1 := (eq_nI (p := tg f E k) (n := 1) (Nat.lt_trans (tg_lt _ _ _) (by decide)) (by decide)).mp (Decidable.not_not.mp c_18)
          obtain ⟨c9, hc3, hc4, hcm, hc6⟩ := hVF.2.2.2.2 k n_18
          have hl8 := tx_len f n E k
          refine ps_st (S' := (22, [(0, .ref q), (1, .int (nI k))], [.ref q], M1)) rfl rfl rfl ?_
          refine ps_get (S' := (25, [(0, .ref q), (1, .int (nI k))], [.ref (qq 5)], M1)) rfl hl_q rfl rfl ?_
          refine ps_st (S' := (26, [(0, .ref q), (1, .int (nI k))], [.int (nI k), .ref (qq 5)], M1)) rfl rfl rfl ?_
          refine ps_st (S' := (27, [(0, .ref q), (1, .int (nI k))], [.ref q, .int (nI k), .ref (qq 5)], M1)) rfl rfl rfl ?_
          refine ps_st (S' := (28, [(0, .ref q), (1, .int (nI k))], [.ref q, .ref q, .int (nI k), .ref (qq 5)], M1)) rfl rfl rfl ?_
          refine ps_get (S' := (31, [(0, .ref q), (1, .int (nI k))], [.ref (qq 3), .ref q, .int (nI k), .ref (qq 5)], M1)) rfl hl_q rfl rfl ?_
          refine ps_st (S' := (32, [(0, .ref q), (1, .int (nI k))], [.int (nI k), .ref (qq 3), .ref q, .int (nI k), .ref (qq 5)], M1)) rfl rfl rfl ?_
          refine ps_ald (S' := (33, [(0, .ref q), (1, .int (nI k))], [.int ((F 3) (Int32.toNatClampNeg (nI k))), .ref q, .int (nI k), .ref (qq 5)], M1)) rfl hl_qq_3 rfl (fun i0_32 i1_32 => ?_)
          rw [show ((F 3) (Int32.toNatClampNeg (nI k))) = (nI c9) from (congrArg (F 3) (nI_toNat (k := k) (by omega))).trans (hc3)]
          show pl _ _ _ (_, [(0, .ref q), (1, .int (nI k))], [.int (nI c9), .ref q, .int (nI k), .ref (qq 5)], M1) _
          refine ps_st (S' := (34, [(0, .ref q), (1, .int (nI k))], [.ref q, .int (nI c9), .ref q, .int (nI k), .ref (qq 5)], M1)) rfl rfl rfl ?_
          refine ps_get (S' := (37, [(0, .ref q), (1, .int (nI k))], [.ref (qq 3), .int (nI c9), .ref q, .int (nI k), .ref (qq 5)], M1)) rfl hl_q rfl rfl ?_
          refine ps_st (S' := (38, [(0, .ref q), (1, .int (nI k))], [.int (nI k), .ref (qq 3), .int (nI c9), .ref q, .int (nI k), .ref (qq 5)], M1)) rfl rfl rfl ?_
          refine ps_ald (S' := (39, [(0, .ref q), (1, .int (nI k))], [.int ((F 3) (Int32.toNatClampNeg (nI k))), .int (nI c9), .ref q, .int (nI k), .ref (qq 5)], M1)) rfl hl_qq_3 rfl (fun i0_38 i1_38 => ?_)
          rw [show ((F 3) (Int32.toNatClampNeg (nI k))) = (nI c9) from (congrArg (F 3) (nI_toNat (k := k) (by omega))).trans (hc3)]
          show pl _ _ _ (_, [(0, .ref q), (1, .int (nI k))], [.int (nI c9), .int (nI c9), .ref q, .int (nI k), .ref (qq 5)], M1) _
          refine ps_st (S' := (40, [(0, .ref q), (1, .int (nI k))], [.ref q, .int (nI c9), .int (nI c9), .ref q, .int (nI k), .ref (qq 5)], M1)) rfl rfl rfl ?_
          refine ps_get (S' := (43, [(0, .ref q), (1, .int (nI k))], [.ref (qq 4), .int (nI c9), .int (nI c9), .ref q, .int (nI k), .ref (qq 5)], M1)) rfl hl_q rfl rfl ?_
          refine ps_st (S' := (44, [(0, .ref q), (1, .int (nI k))], [.int (nI k), .ref (qq 4), .int (nI c9), .int (nI c9), .ref q, .int (nI k), .ref (qq 5)], M1)) rfl rfl rfl ?_
          refine ps_ald (S' := (45, [(0, .ref q), (1, .int (nI k))], [.int ((F 4) (Int32.toNatClampNeg (nI k))), .int (nI c9), .int (nI c9), .ref q, .int (nI k), .ref (qq 5)], M1)) rfl hl_qq_4 rfl (fun i0_44 i1_44 => ?_)
          rw [show ((F 4) (Int32.toNatClampNeg (nI k))) = (nI (tX f n E k).length) from (congrArg (F 4) (nI_toNat (k := k) (by omega))).trans (hc4)]
          show pl _ _ _ (_, [(0, .ref q), (1, .int (nI k))], [.int (nI (tX f n E k).length), .int (nI c9), .int (nI c9), .ref q, .int (nI k), .ref (qq 5)], M1) _
          refine ps_st (S' := (46, [(0, .ref q), (1, .int (nI k))], [.int ((nI c9) + (nI (tX f n E k).length)), .int (nI c9), .ref q, .int (nI k), .ref (qq 5)], M1)) rfl rfl rfl ?_
          rw [nI_add1 (p := c9) (k := (tX f n E k).length) (x := (nI (tX f n E k).length)) rfl (by omega)]
          show pl _ _ _ (_, [(0, .ref q), (1, .int (nI k))], [.int (nI (c9 + (tX f n E k).length)), .int (nI c9), .ref q, .int (nI k), .ref (qq 5)], M1) _
          refine pl_call (a := [.ref q, .int (nI c9), .int (nI (c9 + (tX f n E k).length))]) (rest := [.int (nI k), .ref (qq 5)]) rfl rfl rfl (dy_shapeOf (q := q) (H := H) (m := m) (qq := qq) (F := (fun i => if i = 5 then G else F i)) (sz := (nI N)) (cc := cc) (c := (fun i => (tX f n E k).getD i 0)) (B := c9) (e := (tX f n E k).length) (PL5 hl_q hl_qq_1 hl_qq_2 hl_qq_3 hl_qq_4 hl_qq_5 hl_qq_6) (⟨by omega, by omega⟩) (fun i hi => ⟨hc6 i hi, tx_ch _ _ _ _ _⟩)) (fun v1 M2 q3 => ?_)
          obtain ⟨rfl, rfl⟩ := q3
          show pl _ _ _ (49, [(0, .ref q), (1, .int (nI k))], [.int (shI (s_sh (fun i => (tX f n E k).getD i 0) (tX f n E k).length)), .int (nI k), .ref (qq 5)], M1) _
          refine ps_ast rfl hl_qq_5 (fun M4 i0_49 i1_49 h5 f6 z7 => ?_)
          have h8 := (f6 q (ob_ar hl_q hl_qq_5)).trans hl_q
          have h9 := (f6 (qq 1) (hD 1 (by decide) (by decide))).trans hl_qq_1
          have h10 := (f6 (qq 2) (hD 2 (by decide) (by decide))).trans hl_qq_2
          have h11 := (f6 (qq 3) (hD 3 (by decide) (by decide))).trans hl_qq_3
          have h12 := (f6 (qq 4) (hD 4 (by decide) (by decide))).trans hl_qq_4
          have h13 := (f6 (qq 6) (ar_ne hl_qq_6 hl_qq_5 (by decide))).trans hl_qq_6
          have hF14 := hF1.up (by simp) f6 z7
          show pl _ _ _ (50, [(0, .ref q), (1, .int (nI k))], [], M4) _
          refine ps_st (S' := (53, [(1, .int ((nI k) + 1)), (0, .ref q)], [], M4)) rfl rfl rfl ?_
          rw [nI_add1 (p := k) (k := 1) (x := 1) rfl (by omega)]
          show pl _ _ _ (_, [(1, .int (nI (k + 1))), (0, .ref q)], [], M4) _
          refine ps_st (S' := (2, [(0, .ref q), (1, .int (nI (k + 1)))], [], M4)) rfl rfl rfl ?_
          exact ih (k + 1) ((upd G (Int32.toNatClampNeg (nI k)) (shI (s_sh (fun i => (tX f n E k).getD i 0) (tX f n E k).length)))) M4 h8 h9 h10 h11 h12 h5 h13 hF14 (by omega) (fun j hj h1 => by
              rw [upd_shk (by omega)]
              split
              · rename_i h2; rw [h2]; rfl
              · exact hs j (by omega) h1)
  refine ps_st (S' := (1, [(0, .ref q)], [.int 0], M)) rfl rfl rfl ?_
  refine ps_st (S' := (2, [(0, .ref q), (1, .int 0)], [], M)) rfl rfl rfl ?_
  exact (LL kf) (0) (_) M h_q h_qq_1 h_qq_2 h_qq_3 h_qq_4 h_qq_5 h_qq_6 hF (by omega) (fun j hj => by omega)
set_option maxHeartbeats 1000000 in
theorem dk_poolCheck0 {g : xe_G} {M : mi_H} {q c b fr mr fa ic mj na pa vd o8 : Nat} {mi k1 k2 k3 k4 k5 k6 k7 : Int32} (h_o8 : M.1 o8 = some (ob 8 [.null, .int 0, .null])) (h_c : M.1 c = some (ob 3 [.ref b, .ref q, .int mi, .int (nI mj), .int (nI fa), .int (nI ic), .ref fr, .ref mr, .int (nI na), .int (nI pa), .int k1, .int k2, .int k3, .int k4, .int k5, .int k6, .int k7]))  : pt (mT g) 143 [.ref o8, .ref c, .ref vd] M (fun v M' => (v = none ∧ M'.1 o8 = some (ob 8 [.ref q, .int (nI mj), .ref vd]) ∧ fm [o8] M M')) := by
  refine pt_in (b := mb_143 g) rfl (fun kf => ?_)
  show pl (mT g) kf (mb_143 g).2 (0, [(0, .ref o8), (1, .ref c), (2, .ref vd)], [], M) _
  have hF : fm [o8] M M := fm.rf
  refine ps_st (S' := (1, [(0, .ref o8), (1, .ref c), (2, .ref vd)], [.ref o8], M)) rfl rfl rfl ?_
  refine ps_st (S' := (4, [(0, .ref o8), (1, .ref c), (2, .ref vd)], [], M)) rfl rfl rfl ?_
  refine ps_st (S' := (5, [(0, .ref o8), (1, .ref c), (2, .ref vd)], [.ref o8], M)) rfl rfl rfl ?_
  refine ps_st (S' := (6, [(0, .ref o8), (1, .ref c), (2, .ref vd)], [.ref c, .ref o8], M)) rfl rfl rfl ?_
  refine ps_get (S' := (9, [(0, .ref o8), (1, .ref c), (2, .ref vd)], [.ref q, .ref o8], M)) rfl h_c rfl rfl ?_
  refine ps_put (l' := [.ref q, .int 0, .null]) rfl h_o8 rfl rfl (fun M1 h2 f3 z4 => ?_)
  have h5 := (f3 c (ob_ne h_c h_o8 (by decide))).trans h_c
  have hF6 := hF.up (by simp) f3 z4
  show pl _ _ _ (12, [(0, .ref o8), (1, .ref c), (2, .ref vd)], [], M1) _
  refine ps_st (S' := (13, [(0, .ref o8), (1, .ref c), (2, .ref vd)], [.ref o8], M1)) rfl rfl rfl ?_
  refine ps_st (S' := (14, [(0, .ref o8), (1, .ref c), (2, .ref vd)], [.ref c, .ref o8], M1)) rfl rfl rfl ?_
  refine ps_get (S' := (17, [(0, .ref o8), (1, .ref c), (2, .ref vd)], [.int (nI mj), .ref o8], M1)) rfl h5 rfl rfl ?_
  refine ps_put (l' := [.ref q, .int (nI mj), .null]) rfl h2 rfl rfl (fun M7 h8 f9 z10 => ?_)
  have h11 := (f9 c (ob_ne h5 h2 (by decide))).trans h5
  have hF12 := hF6.up (by simp) f9 z10
  show pl _ _ _ (20, [(0, .ref o8), (1, .ref c), (2, .ref vd)], [], M7) _
  refine ps_st (S' := (21, [(0, .ref o8), (1, .ref c), (2, .ref vd)], [.ref o8], M7)) rfl rfl rfl ?_
  refine ps_st (S' := (22, [(0, .ref o8), (1, .ref c), (2, .ref vd)], [.ref vd, .ref o8], M7)) rfl rfl rfl ?_
  refine ps_put (l' := [.ref q, .int (nI mj), .ref vd]) rfl h8 rfl rfl (fun M13 h14 f15 z16 => ?_)
  have h17 := (f15 c (ob_ne h11 h8 (by decide))).trans h11
  have hF18 := hF12.up (by simp) f15 z16
  show pl _ _ _ (25, [(0, .ref o8), (1, .ref c), (2, .ref vd)], [], M13) _
  exact ps_ret rfl rfl (⟨rfl, h14, hF18⟩)
set_option maxHeartbeats 1000000 in
theorem dk_attrCheck0 {g : xe_G} {M : mi_H} {q c b fr mr fa ic mj na pa vd o0 : Nat} {mi k1 k2 k3 k4 k5 k6 k7 : Int32} (h_o0 : M.1 o0 = some (ob 0 [.null, .null, .null, .null, .int 0])) (h_c : M.1 c = some (ob 3 [.ref b, .ref q, .int mi, .int (nI mj), .int (nI fa), .int (nI ic), .ref fr, .ref mr, .int (nI na), .int (nI pa), .int k1, .int k2, .int k3, .int k4, .int k5, .int k6, .int k7]))  : pt (mT g) 21 [.ref o0, .ref c, .ref vd] M (fun v M' => (v = none ∧ M'.1 o0 = some (ob 0 [.ref c, .ref b, .ref q, .ref vd, .int 0]) ∧ fm [o0] M M')) := by
  refine pt_in (b := mb_21 g) rfl (fun kf => ?_)
  show pl (mT g) kf (mb_21 g).2 (0, [(0, .ref o0), (1, .ref c), (2, .ref vd)], [], M) _
  have hF : fm [o0] M M := fm.rf
  refine ps_st (S' := (1, [(0, .ref o0), (1, .ref c), (2, .ref vd)], [.ref o0], M)) rfl rfl rfl ?_
  refine ps_st (S' := (4, [(0, .ref o0), (1, .ref c), (2, .ref vd)], [], M)) rfl rfl rfl ?_
  refine ps_st (S' := (5, [(0, .ref o0), (1, .ref c), (2, .ref vd)], [.ref o0], M)) rfl rfl rfl ?_
  refine ps_st (S' := (6, [(0, .ref o0), (1, .ref c), (2, .ref vd)], [.ref c, .ref o0], M)) rfl rfl rfl ?_
  refine ps_put (l' := [.ref c, .null, .null, .null, .int 0]) rfl h_o0 rfl rfl (fun M1 h2 f3 z4 => ?_)
  have h5 := (f3 c (ob_ne h_c h_o0 (by decide))).trans h_c
  have hF6 := hF.up (by simp) f3 z4
  show pl _ _ _ (9, [(0, .ref o0), (1, .ref c), (2, .ref vd)], [], M1) _
  refine ps_st (S' := (10, [(0, .ref o0), (1, .ref c), (2, .ref vd)], [.ref o0], M1)) rfl rfl rfl ?_
  refine ps_st (S' := (11, [(0, .ref o0), (1, .ref c), (2, .ref vd)], [.ref vd, .ref o0], M1)) rfl rfl rfl ?_
  refine ps_put (l' := [.ref c, .null, .null, .ref vd, .int 0]) rfl h2 rfl rfl (fun M7 h8 f9 z10 => ?_)
  have h11 := (f9 c (ob_ne h5 h2 (by decide))).trans h5
  have hF12 := hF6.up (by simp) f9 z10
  show pl _ _ _ (14, [(0, .ref o0), (1, .ref c), (2, .ref vd)], [], M7) _
  refine ps_st (S' := (15, [(0, .ref o0), (1, .ref c), (2, .ref vd)], [.ref o0], M7)) rfl rfl rfl ?_
  refine ps_st (S' := (16, [(0, .ref o0), (1, .ref c), (2, .ref vd)], [.ref c, .ref o0], M7)) rfl rfl rfl ?_
  refine ps_get (S' := (19, [(0, .ref o0), (1, .ref c), (2, .ref vd)], [.ref b, .ref o0], M7)) rfl h11 rfl rfl ?_
  refine ps_put (l' := [.ref c, .ref b, .null, .ref vd, .int 0]) rfl h8 rfl rfl (fun M13 h14 f15 z16 => ?_)
  have h17 := (f15 c (ob_ne h11 h8 (by decide))).trans h11
  have hF18 := hF12.up (by simp) f15 z16
  show pl _ _ _ (22, [(0, .ref o0), (1, .ref c), (2, .ref vd)], [], M13) _
  refine ps_st (S' := (23, [(0, .ref o0), (1, .ref c), (2, .ref vd)], [.ref o0], M13)) rfl rfl rfl ?_
  refine ps_st (S' := (24, [(0, .ref o0), (1, .ref c), (2, .ref vd)], [.ref c, .ref o0], M13)) rfl rfl rfl ?_
  refine ps_get (S' := (27, [(0, .ref o0), (1, .ref c), (2, .ref vd)], [.ref q, .ref o0], M13)) rfl h17 rfl rfl ?_
  refine ps_put (l' := [.ref c, .ref b, .ref q, .ref vd, .int 0]) rfl h14 rfl rfl (fun M19 h20 f21 z22 => ?_)
  have h23 := (f21 c (ob_ne h17 h14 (by decide))).trans h17
  have hF24 := hF18.up (by simp) f21 z22
  show pl _ _ _ (30, [(0, .ref o0), (1, .ref c), (2, .ref vd)], [], M19) _
  exact ps_ret rfl rfl (⟨rfl, h20, hF24⟩)
set_option maxHeartbeats 1000000 in
theorem dk_classCheck0 {g : xe_G} {M : mi_H} {q c b fr mr fa ic mj na pa vd o2 ac : Nat} {mi k1 k2 k3 k4 k5 k6 k7 : Int32} (h_o2 : M.1 o2 = some (ob 2 [.null, .null, .null, .null, .null])) (h_c : M.1 c = some (ob 3 [.ref b, .ref q, .int mi, .int (nI mj), .int (nI fa), .int (nI ic), .ref fr, .ref mr, .int (nI na), .int (nI pa), .int k1, .int k2, .int k3, .int k4, .int k5, .int k6, .int k7]))  : pt (mT g) 51 [.ref o2, .ref c, .ref vd, .ref ac] M (fun v M' => (v = none ∧ M'.1 o2 = some (ob 2 [.ref c, .ref b, .ref q, .ref vd, .ref ac]) ∧ fm [o2] M M')) := by
  refine pt_in (b := mb_51 g) rfl (fun kf => ?_)
  show pl (mT g) kf (mb_51 g).2 (0, [(0, .ref o2), (1, .ref c), (2, .ref vd), (3, .ref ac)], [], M) _
  have hF : fm [o2] M M := fm.rf
  refine ps_st (S' := (1, [(0, .ref o2), (1, .ref c), (2, .ref vd), (3, .ref ac)], [.ref o2], M)) rfl rfl rfl ?_
  refine ps_st (S' := (4, [(0, .ref o2), (1, .ref c), (2, .ref vd), (3, .ref ac)], [], M)) rfl rfl rfl ?_
  refine ps_st (S' := (5, [(0, .ref o2), (1, .ref c), (2, .ref vd), (3, .ref ac)], [.ref o2], M)) rfl rfl rfl ?_
  refine ps_st (S' := (6, [(0, .ref o2), (1, .ref c), (2, .ref vd), (3, .ref ac)], [.ref c, .ref o2], M)) rfl rfl rfl ?_
  refine ps_put (l' := [.ref c, .null, .null, .null, .null]) rfl h_o2 rfl rfl (fun M1 h2 f3 z4 => ?_)
  have h5 := (f3 c (ob_ne h_c h_o2 (by decide))).trans h_c
  have hF6 := hF.up (by simp) f3 z4
  show pl _ _ _ (9, [(0, .ref o2), (1, .ref c), (2, .ref vd), (3, .ref ac)], [], M1) _
  refine ps_st (S' := (10, [(0, .ref o2), (1, .ref c), (2, .ref vd), (3, .ref ac)], [.ref o2], M1)) rfl rfl rfl ?_
  refine ps_st (S' := (11, [(0, .ref o2), (1, .ref c), (2, .ref vd), (3, .ref ac)], [.ref vd, .ref o2], M1)) rfl rfl rfl ?_
  refine ps_put (l' := [.ref c, .null, .null, .ref vd, .null]) rfl h2 rfl rfl (fun M7 h8 f9 z10 => ?_)
  have h11 := (f9 c (ob_ne h5 h2 (by decide))).trans h5
  have hF12 := hF6.up (by simp) f9 z10
  show pl _ _ _ (14, [(0, .ref o2), (1, .ref c), (2, .ref vd), (3, .ref ac)], [], M7) _
  refine ps_st (S' := (15, [(0, .ref o2), (1, .ref c), (2, .ref vd), (3, .ref ac)], [.ref o2], M7)) rfl rfl rfl ?_
  refine ps_st (S' := (16, [(0, .ref o2), (1, .ref c), (2, .ref vd), (3, .ref ac)], [.ref ac, .ref o2], M7)) rfl rfl rfl ?_
  refine ps_put (l' := [.ref c, .null, .null, .ref vd, .ref ac]) rfl h8 rfl rfl (fun M13 h14 f15 z16 => ?_)
  have h17 := (f15 c (ob_ne h11 h8 (by decide))).trans h11
  have hF18 := hF12.up (by simp) f15 z16
  show pl _ _ _ (19, [(0, .ref o2), (1, .ref c), (2, .ref vd), (3, .ref ac)], [], M13) _
  refine ps_st (S' := (20, [(0, .ref o2), (1, .ref c), (2, .ref vd), (3, .ref ac)], [.ref o2], M13)) rfl rfl rfl ?_
  refine ps_st (S' := (21, [(0, .ref o2), (1, .ref c), (2, .ref vd), (3, .ref ac)], [.ref c, .ref o2], M13)) rfl rfl rfl ?_
  refine ps_get (S' := (24, [(0, .ref o2), (1, .ref c), (2, .ref vd), (3, .ref ac)], [.ref b, .ref o2], M13)) rfl h17 rfl rfl ?_
  refine ps_put (l' := [.ref c, .ref b, .null, .ref vd, .ref ac]) rfl h14 rfl rfl (fun M19 h20 f21 z22 => ?_)
  have h23 := (f21 c (ob_ne h17 h14 (by decide))).trans h17
  have hF24 := hF18.up (by simp) f21 z22
  show pl _ _ _ (27, [(0, .ref o2), (1, .ref c), (2, .ref vd), (3, .ref ac)], [], M19) _
  refine ps_st (S' := (28, [(0, .ref o2), (1, .ref c), (2, .ref vd), (3, .ref ac)], [.ref o2], M19)) rfl rfl rfl ?_
  refine ps_st (S' := (29, [(0, .ref o2), (1, .ref c), (2, .ref vd), (3, .ref ac)], [.ref c, .ref o2], M19)) rfl rfl rfl ?_
  refine ps_get (S' := (32, [(0, .ref o2), (1, .ref c), (2, .ref vd), (3, .ref ac)], [.ref q, .ref o2], M19)) rfl h23 rfl rfl ?_
  refine ps_put (l' := [.ref c, .ref b, .ref q, .ref vd, .ref ac]) rfl h20 rfl rfl (fun M25 h26 f27 z28 => ?_)
  have h29 := (f27 c (ob_ne h23 h20 (by decide))).trans h23
  have hF30 := hF24.up (by simp) f27 z28
  show pl _ _ _ (35, [(0, .ref o2), (1, .ref c), (2, .ref vd), (3, .ref ac)], [], M25) _
  exact ps_ret rfl rfl (⟨rfl, h26, hF30⟩)
set_option maxHeartbeats 1000000 in
theorem dk_verdict0 {g : xe_G} {M : mi_H} {o10 : Nat} (h_o10 : M.1 o10 = some (ob 10 [.int 0, .int 0]))  : pt (mT g) 171 [.ref o10] M (fun v M' => (v = none ∧ M'.1 o10 = some (ob 10 [.int 0, .int (-1)]) ∧ fm [o10] M M')) := by
  refine pt_in (b := mb_171 g) rfl (fun kf => ?_)
  show pl (mT g) kf (mb_171 g).2 (0, [(0, .ref o10)], [], M) _
  have hF : fm [o10] M M := fm.rf
  refine ps_st (S' := (1, [(0, .ref o10)], [.ref o10], M)) rfl rfl rfl ?_
  refine ps_st (S' := (4, [(0, .ref o10)], [], M)) rfl rfl rfl ?_
  refine ps_st (S' := (5, [(0, .ref o10)], [.ref o10], M)) rfl rfl rfl ?_
  refine ps_st (S' := (6, [(0, .ref o10)], [.int (-1), .ref o10], M)) rfl rfl rfl ?_
  refine ps_put (l' := [.int 0, .int (-1)]) rfl h_o10 rfl rfl (fun M1 h2 f3 z4 => ?_)
  have hF5 := hF.up (by simp) f3 z4
  show pl _ _ _ (9, [(0, .ref o10)], [], M1) _
  exact ps_ret rfl rfl (⟨rfl, h2, hF5⟩)
set_option maxHeartbeats 1000000 in
theorem dk_bytes0 {g : xe_G} {M : mi_H} {o1 da : Nat} (h_o1 : M.1 o1 = some (ob 1 [.null]))  : pt (mT g) 44 [.ref o1, .ref da] M (fun v M' => (v = none ∧ M'.1 o1 = some (ob 1 [.ref da]) ∧ fm [o1] M M')) := by
  refine pt_in (b := mb_44 g) rfl (fun kf => ?_)
  show pl (mT g) kf (mb_44 g).2 (0, [(0, .ref o1), (1, .ref da)], [], M) _
  have hF : fm [o1] M M := fm.rf
  refine ps_st (S' := (1, [(0, .ref o1), (1, .ref da)], [.ref o1], M)) rfl rfl rfl ?_
  refine ps_st (S' := (4, [(0, .ref o1), (1, .ref da)], [], M)) rfl rfl rfl ?_
  refine ps_st (S' := (5, [(0, .ref o1), (1, .ref da)], [.ref o1], M)) rfl rfl rfl ?_
  refine ps_st (S' := (6, [(0, .ref o1), (1, .ref da)], [.ref da, .ref o1], M)) rfl rfl rfl ?_
  refine ps_put (l' := [.ref da]) rfl h_o1 rfl rfl (fun M1 h2 f3 z4 => ?_)
  have hF5 := hF.up (by simp) f3 z4
  show pl _ _ _ (9, [(0, .ref o1), (1, .ref da)], [], M1) _
  exact ps_ret rfl rfl (⟨rfl, h2, hF5⟩)
set_option maxHeartbeats 1000000 in
theorem dk_reader0 {g : xe_G} {M : mi_H} {o9 vd : Nat} {c b : Nat} {mi ma fa ic ac aa k1 k2 k3 k4 k5 k6 k7 : Int32} {u1 u6 u7 : Value} (h_o9 : M.1 o9 = some (ob 9 [.null, .null, .null, .int 0, .int 0])) (h_c : M.1 c = some (ob 3 [.ref b, u1, .int mi, .int ma, .int fa, .int ic, u6, u7, .int ac, .int aa, .int k1, .int k2, .int k3, .int k4, .int k5, .int k6, .int k7]))  : pt (mT g) 154 [.ref o9, .ref c, .ref vd] M (fun v M' => (v = none ∧ M'.1 o9 = some (ob 9 [.ref c, .ref b, .ref vd, .int 0, .int 0]) ∧ fm [o9] M M')) := by
  refine pt_in (b := mb_154 g) rfl (fun kf => ?_)
  show pl (mT g) kf (mb_154 g).2 (0, [(0, .ref o9), (1, .ref c), (2, .ref vd)], [], M) _
  have hF : fm [o9] M M := fm.rf
  refine ps_st (S' := (1, [(0, .ref o9), (1, .ref c), (2, .ref vd)], [.ref o9], M)) rfl rfl rfl ?_
  refine ps_st (S' := (4, [(0, .ref o9), (1, .ref c), (2, .ref vd)], [], M)) rfl rfl rfl ?_
  refine ps_st (S' := (5, [(0, .ref o9), (1, .ref c), (2, .ref vd)], [.ref o9], M)) rfl rfl rfl ?_
  refine ps_st (S' := (6, [(0, .ref o9), (1, .ref c), (2, .ref vd)], [.ref c, .ref o9], M)) rfl rfl rfl ?_
  refine ps_put (l' := [.ref c, .null, .null, .int 0, .int 0]) rfl h_o9 rfl rfl (fun M1 h2 f3 z4 => ?_)
  have h5 := (f3 c (ob_ne h_c h_o9 (by decide))).trans h_c
  have hF6 := hF.up (by simp) f3 z4
  show pl _ _ _ (9, [(0, .ref o9), (1, .ref c), (2, .ref vd)], [], M1) _
  refine ps_st (S' := (10, [(0, .ref o9), (1, .ref c), (2, .ref vd)], [.ref o9], M1)) rfl rfl rfl ?_
  refine ps_st (S' := (11, [(0, .ref o9), (1, .ref c), (2, .ref vd)], [.ref vd, .ref o9], M1)) rfl rfl rfl ?_
  refine ps_put (l' := [.ref c, .null, .ref vd, .int 0, .int 0]) rfl h2 rfl rfl (fun M7 h8 f9 z10 => ?_)
  have h11 := (f9 c (ob_ne h5 h2 (by decide))).trans h5
  have hF12 := hF6.up (by simp) f9 z10
  show pl _ _ _ (14, [(0, .ref o9), (1, .ref c), (2, .ref vd)], [], M7) _
  refine ps_st (S' := (15, [(0, .ref o9), (1, .ref c), (2, .ref vd)], [.ref o9], M7)) rfl rfl rfl ?_
  refine ps_st (S' := (16, [(0, .ref o9), (1, .ref c), (2, .ref vd)], [.ref c, .ref o9], M7)) rfl rfl rfl ?_
  refine ps_get (S' := (19, [(0, .ref o9), (1, .ref c), (2, .ref vd)], [.ref b, .ref o9], M7)) rfl h11 rfl rfl ?_
  refine ps_put (l' := [.ref c, .ref b, .ref vd, .int 0, .int 0]) rfl h8 rfl rfl (fun M13 h14 f15 z16 => ?_)
  have h17 := (f15 c (ob_ne h11 h8 (by decide))).trans h11
  have hF18 := hF12.up (by simp) f15 z16
  show pl _ _ _ (22, [(0, .ref o9), (1, .ref c), (2, .ref vd)], [], M13) _
  exact ps_ret rfl rfl (⟨rfl, h14, hF18⟩)
set_option maxHeartbeats 1000000 in
theorem dk_classFile0 {g : xe_G} {M : mi_H} {o3 b : Nat} (h_o3 : M.1 o3 = some (ob 3 [.null, .null, .int 0, .int 0, .int 0, .int 0, .null, .null, .int 0, .int 0, .int 0, .int 0, .int 0, .int 0, .int 0, .int 0, .int 0])) (l_o3 : o3 < M.2.1) : pt (mT g) 68 [.ref o3, .ref b] M (fun v M' => (∃ (u1 u6 u7 : Value), v = none ∧ M'.1 o3 = some (ob 3 [.ref b, u1, .int 0, .int 0, .int 0, .int 0, u6, u7, .int 0, .int 0, .int 0, .int 0, .int 0, .int 0, .int 0, .int 0, .int (-1)]) ∧ gm [o3] M M' ∧ M.2.1 ≤ M'.2.1)) := by
  refine pt_in (b := mb_68 g) rfl (fun kf => ?_)
  show pl (mT g) kf (mb_68 g).2 (0, [(0, .ref o3), (1, .ref b)], [], M) _
  have hF : gm [o3] M M := gm.rf
  obtain ⟨z0, tp0⟩ : ∃ z0, M.2.1 = z0 := ⟨_, rfl⟩
  refine ps_st (S' := (1, [(0, .ref o3), (1, .ref b)], [.ref o3], M)) rfl rfl rfl ?_
  refine ps_st (S' := (4, [(0, .ref o3), (1, .ref b)], [], M)) rfl rfl rfl ?_
  refine ps_st (S' := (5, [(0, .ref o3), (1, .ref b)], [.ref o3], M)) rfl rfl rfl ?_
  refine ps_st (S' := (6, [(0, .ref o3), (1, .ref b)], [.ref b, .ref o3], M)) rfl rfl rfl ?_
  refine ps_put (l' := [.ref b, .null, .int 0, .int 0, .int 0, .int 0, .null, .null, .int 0, .int 0, .int 0, .int 0, .int 0, .int 0, .int 0, .int 0, .int 0]) rfl h_o3 rfl rfl (fun M1 h2 f3 z4 => ?_)
  have hF5 := hF.up (Or.inl (by simp)) f3 (by rw [z4]; exact Nat.le_refl _)
  have tp6 : M1.2.1 = z0 := by rw [z4]; exact tp0
  show pl _ _ _ (9, [(0, .ref o3), (1, .ref b)], [], M1) _
  refine ps_st (S' := (10, [(0, .ref o3), (1, .ref b)], [.ref o3], M1)) rfl rfl rfl ?_
  refine ps_newz rfl tp6 (fun M7 h8 f9 tp10 => ?_)
  have h11 := (f9 o3 (show o3 ≠ z0 by omega)).trans h2
  have hF12 := hF5.up (Or.inr (by omega)) f9 (by omega)
  show pl _ _ _ (13, [(0, .ref o3), (1, .ref b)], [.ref z0, .ref o3], M7) _
  refine ps_st (S' := (14, [(0, .ref o3), (1, .ref b)], [.ref z0, .ref z0, .ref o3], M7)) rfl rfl rfl ?_
  refine ps_st (S' := (15, [(0, .ref o3), (1, .ref b)], [.int 0, .ref z0, .ref z0, .ref o3], M7)) rfl rfl rfl ?_
  refine ps_st (S' := (16, [(0, .ref o3), (1, .ref b)], [.int 0, .int 0, .ref z0, .ref z0, .ref o3], M7)) rfl rfl rfl ?_
  refine pl_call (a := [.ref z0, .int 0, .int 0]) (rest := [.ref z0, .ref o3]) rfl rfl rfl (dk_pool (pq := z0) (N := 0) (n := 0) h8 (by omega) (by decide) (by decide)) (fun v13 M14 q15 => ?_)
  obtain ⟨rfl, h16, h17, h18, h19, h20, h21, h22, f23, tp24⟩ := q15
  rw [tp10] at h16 h17 h18 h19 h20 h21 h22 tp24
  have h25 := (f23.1 o3 (by omega) (nin1 (show o3 ≠ z0 by omega))).trans h11
  have hF26 := hF12.tr f23 (by intro z hz; simp only [List.mem_cons, List.not_mem_nil, or_false] at hz ⊢; try omega)
  show pl _ _ _ (19, [(0, .ref o3), (1, .ref b)], [.ref z0, .ref o3], M14) _
  refine ps_put (l' := [.ref b, .ref z0, .int 0, .int 0, .int 0, .int 0, .null, .null, .int 0, .int 0, .int 0, .int 0, .int 0, .int 0, .int 0, .int 0, .int 0]) rfl h25 rfl rfl (fun M27 h28 f29 z30 => ?_)
  have hF31 := hF26.up (Or.inl (by simp)) f29 (by rw [z30]; exact Nat.le_refl _)
  have tp32 : M27.2.1 = z0 + 7 := by rw [z30]; exact tp24
  show pl _ _ _ (22, [(0, .ref o3), (1, .ref b)], [], M27) _
  refine ps_st (S' := (23, [(0, .ref o3), (1, .ref b)], [.ref o3], M27)) rfl rfl rfl ?_
  refine ps_st (S' := (24, [(0, .ref o3), (1, .ref b)], [.int 0, .ref o3], M27)) rfl rfl rfl ?_
  refine ps_anew rfl tp32 (fun M33 i0_24 h34 f35 tp36 => ?_)
  rw [show Int32.toNatClampNeg 0 = 0 from rfl] at h34
  have h37 := (f35 o3 (show o3 ≠ (z0 + 7) by omega)).trans h28
  have hF38 := hF31.up (Or.inr (by omega)) f35 (by omega)
  show pl _ _ _ (27, [(0, .ref o3), (1, .ref b)], [.ref (z0 + 7), .ref o3], M33) _
  refine ps_put (l' := [.ref b, .ref z0, .int 0, .int 0, .int 0, .int 0, .ref (z0 + 7), .null, .int 0, .int 0, .int 0, .int 0, .int 0, .int 0, .int 0, .int 0, .int 0]) rfl h37 rfl rfl (fun M39 h40 f41 z42 => ?_)
  have h43 := (f41 (z0 + 7) (show (z0 + 7) ≠ o3 by omega)).trans h34
  have hF44 := hF38.up (Or.inl (by simp)) f41 (by rw [z42]; exact Nat.le_refl _)
  have tp45 : M39.2.1 = z0 + 8 := by rw [z42]; exact tp36
  show pl _ _ _ (30, [(0, .ref o3), (1, .ref b)], [], M39) _
  refine ps_st (S' := (31, [(0, .ref o3), (1, .ref b)], [.ref o3], M39)) rfl rfl rfl ?_
  refine ps_st (S' := (32, [(0, .ref o3), (1, .ref b)], [.int 0, .ref o3], M39)) rfl rfl rfl ?_
  refine ps_anew rfl tp45 (fun M46 i0_32 h47 f48 tp49 => ?_)
  rw [show Int32.toNatClampNeg 0 = 0 from rfl] at h47
  have h50 := (f48 o3 (show o3 ≠ (z0 + 8) by omega)).trans h40
  have h51 := (f48 (z0 + 7) (show (z0 + 7) ≠ (z0 + 8) by omega)).trans h43
  have hF52 := hF44.up (Or.inr (by omega)) f48 (by omega)
  show pl _ _ _ (35, [(0, .ref o3), (1, .ref b)], [.ref (z0 + 8), .ref o3], M46) _
  refine ps_put (l' := [.ref b, .ref z0, .int 0, .int 0, .int 0, .int 0, .ref (z0 + 7), .ref (z0 + 8), .int 0, .int 0, .int 0, .int 0, .int 0, .int 0, .int 0, .int 0, .int 0]) rfl h50 rfl rfl (fun M53 h54 f55 z56 => ?_)
  have h57 := (f55 (z0 + 7) (show (z0 + 7) ≠ o3 by omega)).trans h51
  have h58 := (f55 (z0 + 8) (show (z0 + 8) ≠ o3 by omega)).trans h47
  have hF59 := hF52.up (Or.inl (by simp)) f55 (by rw [z56]; exact Nat.le_refl _)
  have tp60 : M53.2.1 = z0 + 9 := by rw [z56]; exact tp49
  show pl _ _ _ (38, [(0, .ref o3), (1, .ref b)], [], M53) _
  refine ps_st (S' := (39, [(0, .ref o3), (1, .ref b)], [.ref o3], M53)) rfl rfl rfl ?_
  refine ps_st (S' := (40, [(0, .ref o3), (1, .ref b)], [.int (-1), .ref o3], M53)) rfl rfl rfl ?_
  refine ps_put (l' := [.ref b, .ref z0, .int 0, .int 0, .int 0, .int 0, .ref (z0 + 7), .ref (z0 + 8), .int 0, .int 0, .int 0, .int 0, .int 0, .int 0, .int 0, .int 0, .int (-1)]) rfl h54 rfl rfl (fun M61 h62 f63 z64 => ?_)
  have h65 := (f63 (z0 + 7) (show (z0 + 7) ≠ o3 by omega)).trans h57
  have h66 := (f63 (z0 + 8) (show (z0 + 8) ≠ o3 by omega)).trans h58
  have hF67 := hF59.up (Or.inl (by simp)) f63 (by rw [z64]; exact Nat.le_refl _)
  have tp68 : M61.2.1 = z0 + 9 := by rw [z64]; exact tp60
  show pl _ _ _ (43, [(0, .ref o3), (1, .ref b)], [], M61) _
  exact ps_ret rfl rfl (⟨_, _, _, rfl, h62, hF67, hF67.2⟩)
set_option maxHeartbeats 1000000 in
theorem dk_holds_c {g : xe_G} {M : mi_H} {f : Nat → Int32} {n N q : Nat} {E : List (Nat × Nat)} {ox ac o z9 c b da vd fr mr fa ic mj na pa e0 : Nat} {s1 mi ru wa k1 : Int32} {B1 B2 : List Nat} {G1 G2 : Nat → Nat} {og ga gf : Nat} {gn gw : Int32} {gk : Value} (h_ox : M.1 ox = some (ob 8 [.ref q, .int (nI mj), .ref vd])) (h_ac : M.1 ac = some (ob 0 [.ref c, .ref b, .ref q, .ref vd, .int s1])) (h_o : M.1 o = some (ob 2 [.ref c, .ref b, .ref q, .ref vd, .ref ac])) (h_c : M.1 c = some (ob 3 [.ref b, .ref q, .int mi, .int (nI mj), .int (nI fa), .int (nI ic), .ref fr, .ref mr, .int (nI na), .int (nI pa), .int k1, .int 0, .int 0, .int 0, .int 0, .int 0, .int (-1)])) (h_b : M.1 b = some (ob 1 [.ref da])) (h_da : M.1 da = some (ar .byte n f)) (h_vd : M.1 vd = some (ob 10 [.int ru, .int wa])) (h_og : M.1 og = some (ob 11 [.ref ga, .int gn, .ref gf, gk, .int gw])) (hn : n ≤ 65540) (hmj : mj < 65536) (hfa : fa + 8 ≤ n) (hic : fa + 8 + 2 * ic ≤ n) (hic2 : ic < 65536) (hna : na < 65536 ∧ pa ≤ n) (hat : s_atts f n na pa = .inr e0) (hB91 : B1.length < 65536) (hB92 : B2.length < 65536) (hB1 : ∀ i, i < B1.length → B1.getD i 0 + 8 ≤ n ∧ ∃ e0, s_atts f n (by2 f (B1.getD i 0 + 6)) (B1.getD i 0 + 8) = .inr e0) (hB2 : ∀ i, i < B2.length → B2.getD i 0 + 8 ≤ n ∧ ∃ e0, s_atts f n (by2 f (B2.getD i 0 + 6)) (B2.getD i 0 + 8) = .inr e0) (hDs : ∀ i j, i < B1.length → j < B2.length → ¬ G1 i = G2 j) (l_c : c < M.2.1) (l_b : b < M.2.1) (l_da : da < M.2.1) (l_vd : vd < M.2.1) (l_q : q < M.2.1) (l_og : og < M.2.1) (l_ox : ox < M.2.1) (l_ac : ac < M.2.1) (l_o : o < M.2.1) (hz9 : z9 ≤ M.2.1) (hq40 : chkP f n E mj (N - 1) 1 = none) (hq48 : hdS f n E fa = none) (hq56 : ifS f n E (fa + 8) ic 0 = none) (hq64 : flS f n E (by2 f fa) B1 B1.length 0 = none) (hq72 : mtS f n E (by2 f fa) mj B2 B2.length 0 = none) (hV : PV g f n N E q M) (kf : Nat) : pl (mT g) kf (mb_11 g).2 (78, [(4, .ref o), (3, .ref ac), (2, .ref ox), (0, .ref c), (1, .ref vd)], [], M) (fun v M' => ((s_chk f n N E mj fa ic B1 B2 na pa = none) ∧ v = some (.int 1) ∧ M'.1 vd = some (ob 10 [.int ru, .int wa]) ∧ M'.1 og = some (ob 11 [.ref ga, .int gn, .ref gf, gk, .int gw]) ∧ z9 ≤ M'.2.1) ∨ (∃ (e9 : Nat × Nat), (s_chk f n N E mj fa ic B1 B2 na pa = some e9) ∧ v = some (.int 0) ∧ M'.1 vd = some (ob 10 [.int (nI e9.1), .int (nI e9.2)]) ∧ M'.1 og = some (ob 11 [.ref ga, .int gn, .ref gf, gk, .int gw]) ∧ z9 ≤ M'.2.1)) := by
  obtain ⟨z0, tp0⟩ : ∃ z0, M.2.1 = z0 := ⟨_, rfl⟩
  refine ps_st (S' := (79, [(4, .ref o), (3, .ref ac), (2, .ref ox), (0, .ref c), (1, .ref vd)], [.ref ac], M)) rfl rfl rfl ?_
  refine pl_call (a := [.ref ac]) (rest := []) rfl rfl rfl (dk_ofClass (f := f) (n := n) (N := N) (q := q) (E := E) (ac := ac) (c := c) (b := b) (da := da) (vd := vd) (fr := fr) (mr := mr) (fa := fa) (ic := ic) (mj := mj) (na := na) (pa := pa) (mi := mi) (ru := ru) (wa := wa) (s1 := s1) (k1 := k1) (e0 := e0) (bc0 := 0) (K0 := (0, 0, 0, 0, 0, -1)) h_ac h_b h_da h_c h_vd (hn) (hmj) (hfa) (hna) (by decide) (hat) (rfl) (hV)) (fun v1 M2 q3 => ?_)
  rcases q3 with q3 | q3
  · skip
    obtain ⟨bc4, K5, s26, q79_s, q79_l, q79_U, rfl, h7, h8, h9, f10⟩ := q3
    have h12 := (f10.1 ox (nin3 (ob_ne h_ox h_ac (by decide)) (ob_ne h_ox h_vd (by decide)) (ob_ne h_ox h_c (by decide)))).trans h_ox
    have h13 := (f10.1 o (nin3 (ob_ne h_o h_ac (by decide)) (ob_ne h_o h_vd (by decide)) (ob_ne h_o h_c (by decide)))).trans h_o
    have h14 := (f10.1 b (nin3 (ob_ne h_b h_ac (by decide)) (ob_ne h_b h_vd (by decide)) (ob_ne h_b h_c (by decide)))).trans h_b
    have h15 := (f10.1 da (nin3 (Ne.symm (ob_ar h_ac h_da)) (Ne.symm (ob_ar h_vd h_da)) (Ne.symm (ob_ar h_c h_da)))).trans h_da
    have h16 := (f10.1 og (nin3 (ob_ne h_og h_ac (by decide)) (ob_ne h_og h_vd (by decide)) (ob_ne h_og h_c (by decide)))).trans h_og
    have tp18 : M2.2.1 = z0 := by rw [f10.2]; exact tp0
    have hV19 := hV.keep f10.gm (n7c h_ac (by decide) (n7c h_vd (by decide) (n7c h_c (by decide) (n7nil))))
    show pl _ _ _ (82, [(4, .ref o), (3, .ref ac), (2, .ref ox), (0, .ref c), (1, .ref vd)], [.int 1], M2) _
    clear h_ox h_ac h_o h_c h_b h_da h_vd h_og hV f10
    refine ps_if (S1 := (100, [], [], M2)) (S2 := (85, [(4, .ref o), (3, .ref ac), (2, .ref ox), (0, .ref c), (1, .ref vd)], [], M2)) rfl rfl rfl (fun c_82 => ?_) (fun c_82 => ?_)
    · exact absurd (of_decide_eq_true c_82) (by decide)
    refine ps_st (S' := (86, [(4, .ref o), (3, .ref ac), (2, .ref ox), (0, .ref c), (1, .ref vd)], [.ref ox], M2)) rfl rfl rfl ?_
    refine ps_st (S' := (87, [(4, .ref o), (3, .ref ac), (2, .ref ox), (0, .ref c), (1, .ref vd)], [.ref c, .ref ox], M2)) rfl rfl rfl ?_
    refine ps_get (S' := (90, [(4, .ref o), (3, .ref ac), (2, .ref ox), (0, .ref c), (1, .ref vd)], [.int (nI bc4), .ref ox], M2)) rfl h9 rfl rfl ?_
    refine pl_call (a := [.ref ox, .int (nI bc4)]) (rest := []) rfl rfl rfl (dk_bootstrapsHold (f := f) (n := n) (N := N) (q := q) (E := E) (o := ox) (vd := vd) (mj := mj) (bc := bc4) (ru := ru) (wa := wa) h12 h7 (hmj) (q79_l) (hV19)) (fun v20 M21 q22 => ?_)
    rcases q22 with q22 | q22
    · skip
      obtain ⟨q90_s, rfl, h23, f24⟩ := q22
      have h26 := (f24.1 ox (nin1 (ob_ne h12 h7 (by decide)))).trans h12
      have h27 := (f24.1 ac (nin1 (ob_ne h8 h7 (by decide)))).trans h8
      have h28 := (f24.1 o (nin1 (ob_ne h13 h7 (by decide)))).trans h13
      have h29 := (f24.1 c (nin1 (ob_ne h9 h7 (by decide)))).trans h9
      have h30 := (f24.1 b (nin1 (ob_ne h14 h7 (by decide)))).trans h14
      have h31 := (f24.1 da (nin1 (Ne.symm (ob_ar h7 h15)))).trans h15
      have h32 := (f24.1 og (nin1 (ob_ne h16 h7 (by decide)))).trans h16
      have tp34 : M21.2.1 = z0 := by rw [f24.2]; exact tp18
      have hV35 := hV19.keep f24.gm (n7c h7 (by decide) (n7nil))
      show pl _ _ _ (93, [(4, .ref o), (3, .ref ac), (2, .ref ox), (0, .ref c), (1, .ref vd)], [.int 1], M21) _
      clear h12 h8 h13 h9 h14 h15 h7 h16 hV19 f24
      refine ps_if (S1 := (100, [], [], M21)) (S2 := (96, [(4, .ref o), (3, .ref ac), (2, .ref ox), (0, .ref c), (1, .ref vd)], [], M21)) rfl rfl rfl (fun c_93 => ?_) (fun c_93 => ?_)
      · exact absurd (of_decide_eq_true c_93) (by decide)
      refine ps_st (S' := (97, [(4, .ref o), (3, .ref ac), (2, .ref ox), (0, .ref c), (1, .ref vd)], [.int 1], M21)) rfl rfl rfl ?_
      refine ps_st (S' := (101, [], [.int 1], M21)) rfl rfl rfl ?_
      exact ps_ret rfl rfl (Or.inl ⟨by
          unfold s_chk
          rw [hq40]
          try dsimp only
          rw [hq48]
          try dsimp only
          rw [hq56]
          try dsimp only
          rw [hq64]
          try dsimp only
          rw [hq72]
          try dsimp only
          rw [q79_s]
          try dsimp only
          rw [q90_s]
          try dsimp only
          first | done | rfl, rfl, h23, h32, by omega⟩)
    · skip
      obtain ⟨e36, q90_s, rfl, h37, f38⟩ := q22
      have h40 := (f38.1 ox (nin1 (ob_ne h12 h7 (by decide)))).trans h12
      have h41 := (f38.1 ac (nin1 (ob_ne h8 h7 (by decide)))).trans h8
      have h42 := (f38.1 o (nin1 (ob_ne h13 h7 (by decide)))).trans h13
      have h43 := (f38.1 c (nin1 (ob_ne h9 h7 (by decide)))).trans h9
      have h44 := (f38.1 b (nin1 (ob_ne h14 h7 (by decide)))).trans h14
      have h45 := (f38.1 da (nin1 (Ne.symm (ob_ar h7 h15)))).trans h15
      have h46 := (f38.1 og (nin1 (ob_ne h16 h7 (by decide)))).trans h16
      have tp48 : M21.2.1 = z0 := by rw [f38.2]; exact tp18
      have hV49 := hV19.keep f38.gm (n7c h7 (by decide) (n7nil))
      show pl _ _ _ (93, [(4, .ref o), (3, .ref ac), (2, .ref ox), (0, .ref c), (1, .ref vd)], [.int 0], M21) _
      clear h12 h8 h13 h9 h14 h15 h7 h16 hV19 f38
      refine ps_if (S1 := (100, [], [], M21)) (S2 := (96, [(4, .ref o), (3, .ref ac), (2, .ref ox), (0, .ref c), (1, .ref vd)], [], M21)) rfl rfl rfl (fun c_93 => ?_) (fun c_93 => ?_)
      rotate_left
      · exact absurd (by decide) (of_decide_eq_false c_93)
      refine ps_st (S' := (101, [], [.int 0], M21)) rfl rfl rfl ?_
      exact ps_ret rfl rfl (Or.inr ⟨e36, by
          unfold s_chk
          rw [hq40]
          try dsimp only
          rw [hq48]
          try dsimp only
          rw [hq56]
          try dsimp only
          rw [hq64]
          try dsimp only
          rw [hq72]
          try dsimp only
          rw [q79_s]
          try dsimp only
          rw [q90_s]
          try dsimp only
          first | done | rfl, rfl, h37, h46, by omega⟩)
  · skip
    obtain ⟨e950, q79_s, rfl, h51, f52⟩ := q3
    have h54 := (f52.1 ox (nin3 (ob_ne h_ox h_ac (by decide)) (ob_ne h_ox h_vd (by decide)) (ob_ne h_ox h_c (by decide)))).trans h_ox
    have h55 := (f52.1 o (nin3 (ob_ne h_o h_ac (by decide)) (ob_ne h_o h_vd (by decide)) (ob_ne h_o h_c (by decide)))).trans h_o
    have h56 := (f52.1 b (nin3 (ob_ne h_b h_ac (by decide)) (ob_ne h_b h_vd (by decide)) (ob_ne h_b h_c (by decide)))).trans h_b
    have h57 := (f52.1 da (nin3 (Ne.symm (ob_ar h_ac h_da)) (Ne.symm (ob_ar h_vd h_da)) (Ne.symm (ob_ar h_c h_da)))).trans h_da
    have h58 := (f52.1 og (nin3 (ob_ne h_og h_ac (by decide)) (ob_ne h_og h_vd (by decide)) (ob_ne h_og h_c (by decide)))).trans h_og
    have tp60 : M2.2.1 = z0 := by rw [f52.2]; exact tp0
    have hV61 := hV.keep f52.gm (n7c h_ac (by decide) (n7c h_vd (by decide) (n7c h_c (by decide) (n7nil))))
    show pl _ _ _ (82, [(4, .ref o), (3, .ref ac), (2, .ref ox), (0, .ref c), (1, .ref vd)], [.int 0], M2) _
    clear h_ox h_ac h_o h_c h_b h_da h_vd h_og hV f52
    refine ps_if (S1 := (100, [], [], M2)) (S2 := (85, [(4, .ref o), (3, .ref ac), (2, .ref ox), (0, .ref c), (1, .ref vd)], [], M2)) rfl rfl rfl (fun c_82 => ?_) (fun c_82 => ?_)
    rotate_left
    · exact absurd (by decide) (of_decide_eq_false c_82)
    refine ps_st (S' := (101, [], [.int 0], M2)) rfl rfl rfl ?_
    exact ps_ret rfl rfl (Or.inr ⟨e950, by
        unfold s_chk
        rw [hq40]
        try dsimp only
        rw [hq48]
        try dsimp only
        rw [hq56]
        try dsimp only
        rw [hq64]
        try dsimp only
        rw [hq72]
        try dsimp only
        rw [q79_s]
        try dsimp only
        first | done | rfl, rfl, h51, h58, by omega⟩)
set_option maxHeartbeats 1000000 in
theorem dk_holds_b {g : xe_G} {M : mi_H} {f : Nat → Int32} {n N q : Nat} {E : List (Nat × Nat)} {ox ac o z9 c b da vd fr mr fa ic mj na pa e0 : Nat} {s1 mi ru wa k1 : Int32} {B1 B2 : List Nat} {G1 G2 : Nat → Nat} {og ga gf : Nat} {gn gw : Int32} {gk : Value} (h_ox : M.1 ox = some (ob 8 [.ref q, .int (nI mj), .ref vd])) (h_ac : M.1 ac = some (ob 0 [.ref c, .ref b, .ref q, .ref vd, .int s1])) (h_o : M.1 o = some (ob 2 [.ref c, .ref b, .ref q, .ref vd, .ref ac])) (h_c : M.1 c = some (ob 3 [.ref b, .ref q, .int mi, .int (nI mj), .int (nI fa), .int (nI ic), .ref fr, .ref mr, .int (nI na), .int (nI pa), .int k1, .int 0, .int 0, .int 0, .int 0, .int 0, .int (-1)])) (h_b : M.1 b = some (ob 1 [.ref da])) (h_da : M.1 da = some (ar .byte n f)) (h_vd : M.1 vd = some (ob 10 [.int ru, .int wa])) (h_og : M.1 og = some (ob 11 [.ref ga, .int gn, .ref gf, gk, .int gw])) (hn : n ≤ 65540) (hmj : mj < 65536) (hfa : fa + 8 ≤ n) (hic : fa + 8 + 2 * ic ≤ n) (hic2 : ic < 65536) (hna : na < 65536 ∧ pa ≤ n) (hat : s_atts f n na pa = .inr e0) (hB91 : B1.length < 65536) (hB92 : B2.length < 65536) (hB1 : ∀ i, i < B1.length → B1.getD i 0 + 8 ≤ n ∧ ∃ e0, s_atts f n (by2 f (B1.getD i 0 + 6)) (B1.getD i 0 + 8) = .inr e0) (hB2 : ∀ i, i < B2.length → B2.getD i 0 + 8 ≤ n ∧ ∃ e0, s_atts f n (by2 f (B2.getD i 0 + 6)) (B2.getD i 0 + 8) = .inr e0) (hDs : ∀ i j, i < B1.length → j < B2.length → ¬ G1 i = G2 j) (l_c : c < M.2.1) (l_b : b < M.2.1) (l_da : da < M.2.1) (l_vd : vd < M.2.1) (l_q : q < M.2.1) (l_og : og < M.2.1) (l_ox : ox < M.2.1) (l_ac : ac < M.2.1) (l_o : o < M.2.1) (hz9 : z9 ≤ M.2.1) (hq40 : chkP f n E mj (N - 1) 1 = none) (hq48 : hdS f n E fa = none) (hq56 : ifS f n E (fa + 8) ic 0 = none) (hV : PV g f n N E q M) (hM1 : MV f B1 fr G1 0 M) (hM2 : MV f B2 mr G2 0 M) (kf : Nat) : pl (mT g) kf (mb_11 g).2 (62, [(4, .ref o), (3, .ref ac), (2, .ref ox), (0, .ref c), (1, .ref vd)], [], M) (fun v M' => ((s_chk f n N E mj fa ic B1 B2 na pa = none) ∧ v = some (.int 1) ∧ M'.1 vd = some (ob 10 [.int ru, .int wa]) ∧ M'.1 og = some (ob 11 [.ref ga, .int gn, .ref gf, gk, .int gw]) ∧ z9 ≤ M'.2.1) ∨ (∃ (e9 : Nat × Nat), (s_chk f n N E mj fa ic B1 B2 na pa = some e9) ∧ v = some (.int 0) ∧ M'.1 vd = some (ob 10 [.int (nI e9.1), .int (nI e9.2)]) ∧ M'.1 og = some (ob 11 [.ref ga, .int gn, .ref gf, gk, .int gw]) ∧ z9 ≤ M'.2.1)) := by
  obtain ⟨z0, tp0⟩ : ∃ z0, M.2.1 = z0 := ⟨_, rfl⟩
  refine ps_st (S' := (64, [(4, .ref o), (3, .ref ac), (2, .ref ox), (0, .ref c), (1, .ref vd)], [.ref o], M)) rfl rfl rfl ?_
  refine pl_call (a := [.ref o]) (rest := []) rfl rfl rfl (dk_fieldsHold (f := f) (n := n) (N := N) (q := q) (E := E) (o := o) (c := c) (b := b) (da := da) (vd := vd) (ac := ac) (mr := mr) (fa := fa) (ic := ic) (mj := mj) (na := na) (pa := pa) (mi := mi) (ru := ru) (wa := wa) (k1 := k1) (k2 := 0) (k3 := 0) (k4 := 0) (k5 := 0) (k6 := 0) (k7 := (-1)) (ox := ox) (og := og) (ga := ga) (gf := gf) (gn := gn) (gw := gw) (gk := gk) (s1 := s1) (B := B1) (G := G1) (mm := fr) (B2 := B2) (G2 := G2) (m2 := mr) h_ox h_og h_o h_c h_b h_da h_vd h_ac (hn) (hmj) (hfa) (hB91) (hB1) (hDs) (by omega) (by omega) (by omega) (by omega) (by omega) (by omega) (by omega) (by omega) (by omega) (hV) (hM1) (hM2)) (fun v1 M2 q3 => ?_)
  rcases q3 with q3 | q3
  · skip
    obtain ⟨s24, q64_s, q64_V, q64_W, rfl, h5, h6, h7, h8, h9, h10, h11, h12, tp14⟩ := q3
    obtain ⟨t15, tp16⟩ : ∃ t9, M2.2.1 = t9 := ⟨_, rfl⟩
    rw [tp0, tp16] at tp14
    show pl _ _ _ (67, [(4, .ref o), (3, .ref ac), (2, .ref ox), (0, .ref c), (1, .ref vd)], [.int 1], M2) _
    refine ps_if (S1 := (100, [], [], M2)) (S2 := (70, [(4, .ref o), (3, .ref ac), (2, .ref ox), (0, .ref c), (1, .ref vd)], [], M2)) rfl rfl rfl (fun c_67 => ?_) (fun c_67 => ?_)
    · exact absurd (of_decide_eq_true c_67) (by decide)
    refine ps_st (S' := (72, [(4, .ref o), (3, .ref ac), (2, .ref ox), (0, .ref c), (1, .ref vd)], [.ref o], M2)) rfl rfl rfl ?_
    refine pl_call (a := [.ref o]) (rest := []) rfl rfl rfl (dk_methodsHold (f := f) (n := n) (N := N) (q := q) (E := E) (o := o) (c := c) (b := b) (da := da) (vd := vd) (ac := ac) (fr := fr) (fa := fa) (ic := ic) (mj := mj) (na := na) (pa := pa) (mi := mi) (ru := ru) (wa := wa) (k1 := k1) (k2 := 0) (k3 := 0) (k4 := 0) (k5 := 0) (k6 := 0) (k7 := (-1)) (ox := ox) (og := og) (ga := ga) (gf := gf) (gn := gn) (gw := gw) (gk := gk) (s1 := s24) (B := B2) (G := G2) (mm := mr) h5 h6 h7 h8 h9 h10 h11 h12 (hn) (hmj) (hfa) (hB92) (hB2) (by omega) (by omega) (by omega) (by omega) (by omega) (by omega) (by omega) (by omega) (by omega) (q64_V) (q64_W)) (fun v17 M18 q19 => ?_)
    rcases q19 with q19 | q19
    · skip
      obtain ⟨s220, q72_s, q72_V, rfl, h21, h22, h23, h24, h25, h26, h27, h28, tp30⟩ := q19
      obtain ⟨t31, tp32⟩ : ∃ t9, M18.2.1 = t9 := ⟨_, rfl⟩
      rw [tp16, tp32] at tp30
      show pl _ _ _ (75, [(4, .ref o), (3, .ref ac), (2, .ref ox), (0, .ref c), (1, .ref vd)], [.int 1], M18) _
      refine ps_if (S1 := (100, [], [], M18)) (S2 := (78, [(4, .ref o), (3, .ref ac), (2, .ref ox), (0, .ref c), (1, .ref vd)], [], M18)) rfl rfl rfl (fun c_75 => ?_) (fun c_75 => ?_)
      · exact absurd (of_decide_eq_true c_75) (by decide)
      exact dk_holds_c (z9 := z9) (e0 := e0) h21 h28 h23 h24 h25 h26 h27 h22 hn hmj hfa hic hic2 hna hat hB91 hB92 hB1 hB2 hDs (by omega) (by omega) (by omega) (by omega) (by omega) (by omega) (by omega) (by omega) (by omega) (by omega) hq40 hq48 hq56 q64_s q72_s q72_V kf
    · skip
      obtain ⟨e933, q72_s, rfl, h34, h35, tp37⟩ := q19
      obtain ⟨t38, tp39⟩ : ∃ t9, M18.2.1 = t9 := ⟨_, rfl⟩
      rw [tp16, tp39] at tp37
      show pl _ _ _ (75, [(4, .ref o), (3, .ref ac), (2, .ref ox), (0, .ref c), (1, .ref vd)], [.int 0], M18) _
      refine ps_if (S1 := (100, [], [], M18)) (S2 := (78, [(4, .ref o), (3, .ref ac), (2, .ref ox), (0, .ref c), (1, .ref vd)], [], M18)) rfl rfl rfl (fun c_75 => ?_) (fun c_75 => ?_)
      rotate_left
      · exact absurd (by decide) (of_decide_eq_false c_75)
      refine ps_st (S' := (101, [], [.int 0], M18)) rfl rfl rfl ?_
      exact ps_ret rfl rfl (Or.inr ⟨e933, by
          unfold s_chk
          rw [hq40]
          try dsimp only
          rw [hq48]
          try dsimp only
          rw [hq56]
          try dsimp only
          rw [q64_s]
          try dsimp only
          rw [q72_s]
          try dsimp only
          first | done | rfl, rfl, h34, h35, by omega⟩)
  · skip
    obtain ⟨e940, q64_s, rfl, h41, h42, tp44⟩ := q3
    obtain ⟨t45, tp46⟩ : ∃ t9, M2.2.1 = t9 := ⟨_, rfl⟩
    rw [tp0, tp46] at tp44
    show pl _ _ _ (67, [(4, .ref o), (3, .ref ac), (2, .ref ox), (0, .ref c), (1, .ref vd)], [.int 0], M2) _
    refine ps_if (S1 := (100, [], [], M2)) (S2 := (70, [(4, .ref o), (3, .ref ac), (2, .ref ox), (0, .ref c), (1, .ref vd)], [], M2)) rfl rfl rfl (fun c_67 => ?_) (fun c_67 => ?_)
    rotate_left
    · exact absurd (by decide) (of_decide_eq_false c_67)
    refine ps_st (S' := (101, [], [.int 0], M2)) rfl rfl rfl ?_
    exact ps_ret rfl rfl (Or.inr ⟨e940, by
        unfold s_chk
        rw [hq40]
        try dsimp only
        rw [hq48]
        try dsimp only
        rw [hq56]
        try dsimp only
        rw [q64_s]
        try dsimp only
        first | done | rfl, rfl, h41, h42, by omega⟩)
set_option maxHeartbeats 1000000 in
theorem dk_holds {g : xe_G} {M : mi_H} {f : Nat → Int32} {n N q : Nat} {E : List (Nat × Nat)} {c b da vd fr mr fa ic mj na pa e0 : Nat} {mi ru wa k1 : Int32} {B1 B2 : List Nat} {G1 G2 : Nat → Nat} {og ga gf : Nat} {gn gw : Int32} {gk : Value} (h_c : M.1 c = some (ob 3 [.ref b, .ref q, .int mi, .int (nI mj), .int (nI fa), .int (nI ic), .ref fr, .ref mr, .int (nI na), .int (nI pa), .int k1, .int 0, .int 0, .int 0, .int 0, .int 0, .int (-1)])) (h_b : M.1 b = some (ob 1 [.ref da])) (h_da : M.1 da = some (ar .byte n f)) (h_vd : M.1 vd = some (ob 10 [.int ru, .int wa])) (h_og : M.1 og = some (ob 11 [.ref ga, .int gn, .ref gf, gk, .int gw])) (hn : n ≤ 65540) (hmj : mj < 65536) (hfa : fa + 8 ≤ n) (hic : fa + 8 + 2 * ic ≤ n) (hic2 : ic < 65536) (hna : na < 65536 ∧ pa ≤ n) (hat : s_atts f n na pa = .inr e0) (hB91 : B1.length < 65536) (hB92 : B2.length < 65536) (hB1 : ∀ i, i < B1.length → B1.getD i 0 + 8 ≤ n ∧ ∃ e0, s_atts f n (by2 f (B1.getD i 0 + 6)) (B1.getD i 0 + 8) = .inr e0) (hB2 : ∀ i, i < B2.length → B2.getD i 0 + 8 ≤ n ∧ ∃ e0, s_atts f n (by2 f (B2.getD i 0 + 6)) (B2.getD i 0 + 8) = .inr e0) (hDs : ∀ i j, i < B1.length → j < B2.length → ¬ G1 i = G2 j) (l_c : c < M.2.1) (l_b : b < M.2.1) (l_da : da < M.2.1) (l_vd : vd < M.2.1) (l_q : q < M.2.1) (l_og : og < M.2.1) (hW : PW g f n N E q M) (hM1 : MV f B1 fr G1 0 M) (hM2 : MV f B2 mr G2 0 M) : pt (mT g) 11 [.ref c, .ref vd] M (fun v M' => ((s_chk f n N E mj fa ic B1 B2 na pa = none) ∧ v = some (.int 1) ∧ M'.1 vd = some (ob 10 [.int ru, .int wa]) ∧ M'.1 og = some (ob 11 [.ref ga, .int gn, .ref gf, gk, .int gw]) ∧ M.2.1 ≤ M'.2.1) ∨ (∃ (e9 : Nat × Nat), (s_chk f n N E mj fa ic B1 B2 na pa = some e9) ∧ v = some (.int 0) ∧ M'.1 vd = some (ob 10 [.int (nI e9.1), .int (nI e9.2)]) ∧ M'.1 og = some (ob 11 [.ref ga, .int gn, .ref gf, gk, .int gw]) ∧ M.2.1 ≤ M'.2.1)) := by
  refine pt_in (b := mb_11 g) rfl (fun kf => ?_)
  show pl (mT g) kf (mb_11 g).2 (0, [(0, .ref c), (1, .ref vd)], [], M) _
  obtain ⟨z0, tp0⟩ : ∃ z0, M.2.1 = z0 := ⟨_, rfl⟩
  obtain ⟨hL, H, m, qq, F, cc, hP, hT, hBd, hb, hVF, hD⟩ := hW
  have h_q := hP.1
  have h_qq_1 := hP.2.1 1 (by decide) (by decide)
  have h_qq_2 := hP.2.1 2 (by decide) (by decide)
  have h_qq_3 := hP.2.1 3 (by decide) (by decide)
  have h_qq_4 := hP.2.1 4 (by decide) (by decide)
  have h_qq_5 := hP.2.1 5 (by decide) (by decide)
  have h_qq_6 := hP.2.2
  have l_qq_1 := hBd.2 1 (by decide) (by decide)
  have l_qq_2 := hBd.2 2 (by decide) (by decide)
  have l_qq_3 := hBd.2 3 (by decide) (by decide)
  have l_qq_4 := hBd.2 4 (by decide) (by decide)
  have l_qq_5 := hBd.2 5 (by decide) (by decide)
  have l_qq_6 := hBd.2 6 (by decide) (by decide)
  have l_fr := hM1.1
  have l_mr := hM2.1
  refine ps_st (S' := (1, [(0, .ref c), (1, .ref vd)], [.ref c], M)) rfl rfl rfl ?_
  refine ps_get (S' := (4, [(0, .ref c), (1, .ref vd)], [.ref q], M)) rfl h_c rfl rfl ?_
  refine pl_call (a := [.ref q]) (rest := []) rfl rfl rfl (dk_describeTexts (f := f) (n := n) (N := N) (H := H) (m := m) (q := q) (E := E) (qq := qq) (F := F) (cc := cc) h_q h_qq_1 h_qq_2 h_qq_3 h_qq_4 h_qq_5 h_qq_6 (by omega) (hVF) (hD)) (fun v1 M2 q3 => ?_)
  obtain ⟨G54, q4_s, rfl, h5, f6⟩ := q3
  have h8 := (f6.1 c (nin1 (ob_ar h_c h_qq_5))).trans h_c
  have h9 := (f6.1 b (nin1 (ob_ar h_b h_qq_5))).trans h_b
  have h10 := (f6.1 da (nin1 (ar_ne h_da h_qq_5 (by decide)))).trans h_da
  have h11 := (f6.1 vd (nin1 (ob_ar h_vd h_qq_5))).trans h_vd
  have h12 := (f6.1 og (nin1 (ob_ar h_og h_qq_5))).trans h_og
  have h13 := (f6.1 q (nin1 (ob_ar h_q h_qq_5))).trans h_q
  have h14 := (f6.1 (qq 1) (nin1 (hD 1 (by decide) (by decide)))).trans h_qq_1
  have h15 := (f6.1 (qq 2) (nin1 (hD 2 (by decide) (by decide)))).trans h_qq_2
  have h16 := (f6.1 (qq 3) (nin1 (hD 3 (by decide) (by decide)))).trans h_qq_3
  have h17 := (f6.1 (qq 4) (nin1 (hD 4 (by decide) (by decide)))).trans h_qq_4
  have h18 := (f6.1 (qq 6) (nin1 (ar_ne h_qq_6 h_qq_5 (by decide)))).trans h_qq_6
  have tp20 : M2.2.1 = z0 := by rw [f6.2]; exact tp0
  show pl _ _ _ (7, [(0, .ref c), (1, .ref vd)], [], M2) _
  have hV21 := hM1.keepX f6.gm h_qq_5 (by decide)
  have hV22 := hM2.keepX f6.gm h_qq_5 (by decide)
  have hV23 := hL.keepX f6.gm h_qq_5
  have hV : PV g f n N E q M2 := PV_of hV23 (PL5 h13 h14 h15 h16 h17 h5 h18) hT hBd f6.2 hb hVF q4_s
  clear h_c h_b h_da h_vd h_og h_q h_qq_1 h_qq_2 h_qq_3 h_qq_4 h_qq_5 h_qq_6 hM1 hM2 hL f6
  refine ps_newz rfl tp20 (fun M24 h25 f26 tp27 => ?_)
  have h28 := (f26 c (show c ≠ z0 by omega)).trans h8
  have h29 := (f26 b (show b ≠ z0 by omega)).trans h9
  have h30 := (f26 da (show da ≠ z0 by omega)).trans h10
  have h31 := (f26 vd (show vd ≠ z0 by omega)).trans h11
  have h32 := (f26 og (show og ≠ z0 by omega)).trans h12
  have hV33 := hV.new tp20 f26 tp27
  have hV34 := hV21.new tp20 f26 tp27
  have hV35 := hV22.new tp20 f26 tp27
  clear h8 h9 h10 h11 h12 hV hV21 hV22 f26
  show pl _ _ _ (10, [(0, .ref c), (1, .ref vd)], [.ref z0], M24) _
  refine ps_st (S' := (11, [(0, .ref c), (1, .ref vd)], [.ref z0, .ref z0], M24)) rfl rfl rfl ?_
  refine ps_st (S' := (12, [(0, .ref c), (1, .ref vd)], [.ref c, .ref z0, .ref z0], M24)) rfl rfl rfl ?_
  refine ps_st (S' := (13, [(0, .ref c), (1, .ref vd)], [.ref vd, .ref c, .ref z0, .ref z0], M24)) rfl rfl rfl ?_
  refine pl_call (a := [.ref z0, .ref c, .ref vd]) (rest := [.ref z0]) rfl rfl rfl (dk_poolCheck0 (q := q) (c := c) (b := b) (fr := fr) (mr := mr) (fa := fa) (ic := ic) (mj := mj) (na := na) (pa := pa) (vd := vd) (o8 := z0) (mi := mi) (k1 := k1) (k2 := 0) (k3 := 0) (k4 := 0) (k5 := 0) (k6 := 0) (k7 := (-1)) h25 h28) (fun v37 M38 q39 => ?_)
  obtain ⟨rfl, h40, f41⟩ := q39
  have h43 := (f41.1 c (nin1 (show c ≠ z0 by omega))).trans h28
  have h44 := (f41.1 b (nin1 (show b ≠ z0 by omega))).trans h29
  have h45 := (f41.1 da (nin1 (show da ≠ z0 by omega))).trans h30
  have h46 := (f41.1 vd (nin1 (show vd ≠ z0 by omega))).trans h31
  have h47 := (f41.1 og (nin1 (show og ≠ z0 by omega))).trans h32
  have tp49 : M38.2.1 = z0 + 1 := by rw [f41.2]; exact tp27
  have hV50 := hV33.keep f41.gm (n7c h25 (by decide) (n7nil))
  have hV51 := hV34.keep f41.gm (n6o h25 (by decide) (n6on))
  have hV52 := hV35.keep f41.gm (n6o h25 (by decide) (n6on))
  show pl _ _ _ (16, [(0, .ref c), (1, .ref vd)], [.ref z0], M38) _
  clear h28 h29 h30 h31 h32 h25 hV33 hV34 hV35 f41
  refine ps_st (S' := (17, [(2, .ref z0), (0, .ref c), (1, .ref vd)], [], M38)) rfl rfl rfl ?_
  refine ps_newz rfl tp49 (fun M53 h54 f55 tp56 => ?_)
  have h57 := (f55 c (show c ≠ (z0 + 1) by omega)).trans h43
  have h58 := (f55 b (show b ≠ (z0 + 1) by omega)).trans h44
  have h59 := (f55 da (show da ≠ (z0 + 1) by omega)).trans h45
  have h60 := (f55 vd (show vd ≠ (z0 + 1) by omega)).trans h46
  have h61 := (f55 og (show og ≠ (z0 + 1) by omega)).trans h47
  have h62 := (f55 z0 (show z0 ≠ (z0 + 1) by omega)).trans h40
  have hV63 := hV50.new tp49 f55 tp56
  have hV64 := hV51.new tp49 f55 tp56
  have hV65 := hV52.new tp49 f55 tp56
  clear h43 h44 h45 h46 h47 h40 hV50 hV51 hV52 f55
  show pl _ _ _ (20, [(2, .ref z0), (0, .ref c), (1, .ref vd)], [.ref (z0 + 1)], M53) _
  refine ps_st (S' := (21, [(2, .ref z0), (0, .ref c), (1, .ref vd)], [.ref (z0 + 1), .ref (z0 + 1)], M53)) rfl rfl rfl ?_
  refine ps_st (S' := (22, [(2, .ref z0), (0, .ref c), (1, .ref vd)], [.ref c, .ref (z0 + 1), .ref (z0 + 1)], M53)) rfl rfl rfl ?_
  refine ps_st (S' := (23, [(2, .ref z0), (0, .ref c), (1, .ref vd)], [.ref vd, .ref c, .ref (z0 + 1), .ref (z0 + 1)], M53)) rfl rfl rfl ?_
  refine pl_call (a := [.ref (z0 + 1), .ref c, .ref vd]) (rest := [.ref (z0 + 1)]) rfl rfl rfl (dk_attrCheck0 (q := q) (c := c) (b := b) (fr := fr) (mr := mr) (fa := fa) (ic := ic) (mj := mj) (na := na) (pa := pa) (vd := vd) (o0 := (z0 + 1)) (mi := mi) (k1 := k1) (k2 := 0) (k3 := 0) (k4 := 0) (k5 := 0) (k6 := 0) (k7 := (-1)) h54 h57) (fun v67 M68 q69 => ?_)
  obtain ⟨rfl, h70, f71⟩ := q69
  have h73 := (f71.1 c (nin1 (show c ≠ (z0 + 1) by omega))).trans h57
  have h74 := (f71.1 b (nin1 (show b ≠ (z0 + 1) by omega))).trans h58
  have h75 := (f71.1 da (nin1 (show da ≠ (z0 + 1) by omega))).trans h59
  have h76 := (f71.1 vd (nin1 (show vd ≠ (z0 + 1) by omega))).trans h60
  have h77 := (f71.1 og (nin1 (show og ≠ (z0 + 1) by omega))).trans h61
  have h78 := (f71.1 z0 (nin1 (show z0 ≠ (z0 + 1) by omega))).trans h62
  have tp80 : M68.2.1 = z0 + 2 := by rw [f71.2]; exact tp56
  have hV81 := hV63.keep f71.gm (n7c h54 (by decide) (n7nil))
  have hV82 := hV64.keep f71.gm (n6o h54 (by decide) (n6on))
  have hV83 := hV65.keep f71.gm (n6o h54 (by decide) (n6on))
  show pl _ _ _ (26, [(2, .ref z0), (0, .ref c), (1, .ref vd)], [.ref (z0 + 1)], M68) _
  clear h57 h58 h59 h60 h61 h62 h54 hV63 hV64 hV65 f71
  refine ps_st (S' := (27, [(3, .ref (z0 + 1)), (2, .ref z0), (0, .ref c), (1, .ref vd)], [], M68)) rfl rfl rfl ?_
  refine ps_newz rfl tp80 (fun M84 h85 f86 tp87 => ?_)
  have h88 := (f86 c (show c ≠ (z0 + 2) by omega)).trans h73
  have h89 := (f86 b (show b ≠ (z0 + 2) by omega)).trans h74
  have h90 := (f86 da (show da ≠ (z0 + 2) by omega)).trans h75
  have h91 := (f86 vd (show vd ≠ (z0 + 2) by omega)).trans h76
  have h92 := (f86 og (show og ≠ (z0 + 2) by omega)).trans h77
  have h93 := (f86 z0 (show z0 ≠ (z0 + 2) by omega)).trans h78
  have h94 := (f86 (z0 + 1) (show (z0 + 1) ≠ (z0 + 2) by omega)).trans h70
  have hV95 := hV81.new tp80 f86 tp87
  have hV96 := hV82.new tp80 f86 tp87
  have hV97 := hV83.new tp80 f86 tp87
  clear h73 h74 h75 h76 h77 h78 h70 hV81 hV82 hV83 f86
  show pl _ _ _ (30, [(3, .ref (z0 + 1)), (2, .ref z0), (0, .ref c), (1, .ref vd)], [.ref (z0 + 2)], M84) _
  refine ps_st (S' := (31, [(3, .ref (z0 + 1)), (2, .ref z0), (0, .ref c), (1, .ref vd)], [.ref (z0 + 2), .ref (z0 + 2)], M84)) rfl rfl rfl ?_
  refine ps_st (S' := (32, [(3, .ref (z0 + 1)), (2, .ref z0), (0, .ref c), (1, .ref vd)], [.ref c, .ref (z0 + 2), .ref (z0 + 2)], M84)) rfl rfl rfl ?_
  refine ps_st (S' := (33, [(3, .ref (z0 + 1)), (2, .ref z0), (0, .ref c), (1, .ref vd)], [.ref vd, .ref c, .ref (z0 + 2), .ref (z0 + 2)], M84)) rfl rfl rfl ?_
  refine ps_st (S' := (34, [(3, .ref (z0 + 1)), (2, .ref z0), (0, .ref c), (1, .ref vd)], [.ref (z0 + 1), .ref vd, .ref c, .ref (z0 + 2), .ref (z0 + 2)], M84)) rfl rfl rfl ?_
  refine pl_call (a := [.ref (z0 + 2), .ref c, .ref vd, .ref (z0 + 1)]) (rest := [.ref (z0 + 2)]) rfl rfl rfl (dk_classCheck0 (q := q) (c := c) (b := b) (fr := fr) (mr := mr) (fa := fa) (ic := ic) (mj := mj) (na := na) (pa := pa) (vd := vd) (o2 := (z0 + 2)) (ac := (z0 + 1)) (mi := mi) (k1 := k1) (k2 := 0) (k3 := 0) (k4 := 0) (k5 := 0) (k6 := 0) (k7 := (-1)) h85 h88) (fun v99 M100 q101 => ?_)
  obtain ⟨rfl, h102, f103⟩ := q101
  have h105 := (f103.1 c (nin1 (show c ≠ (z0 + 2) by omega))).trans h88
  have h106 := (f103.1 b (nin1 (show b ≠ (z0 + 2) by omega))).trans h89
  have h107 := (f103.1 da (nin1 (show da ≠ (z0 + 2) by omega))).trans h90
  have h108 := (f103.1 vd (nin1 (show vd ≠ (z0 + 2) by omega))).trans h91
  have h109 := (f103.1 og (nin1 (show og ≠ (z0 + 2) by omega))).trans h92
  have h110 := (f103.1 z0 (nin1 (show z0 ≠ (z0 + 2) by omega))).trans h93
  have h111 := (f103.1 (z0 + 1) (nin1 (show (z0 + 1) ≠ (z0 + 2) by omega))).trans h94
  have tp113 : M100.2.1 = z0 + 3 := by rw [f103.2]; exact tp87
  have hV114 := hV95.keep f103.gm (n7c h85 (by decide) (n7nil))
  have hV115 := hV96.keep f103.gm (n6o h85 (by decide) (n6on))
  have hV116 := hV97.keep f103.gm (n6o h85 (by decide) (n6on))
  show pl _ _ _ (37, [(3, .ref (z0 + 1)), (2, .ref z0), (0, .ref c), (1, .ref vd)], [.ref (z0 + 2)], M100) _
  clear h88 h89 h90 h91 h92 h93 h94 h85 hV95 hV96 hV97 f103
  refine ps_st (S' := (39, [(4, .ref (z0 + 2)), (3, .ref (z0 + 1)), (2, .ref z0), (0, .ref c), (1, .ref vd)], [], M100)) rfl rfl rfl ?_
  refine ps_st (S' := (40, [(4, .ref (z0 + 2)), (3, .ref (z0 + 1)), (2, .ref z0), (0, .ref c), (1, .ref vd)], [.ref z0], M100)) rfl rfl rfl ?_
  refine pl_call (a := [.ref z0]) (rest := []) rfl rfl rfl (dk_entriesHold (f := f) (n := n) (N := N) (q := q) (E := E) (o := z0) (vd := vd) (mj := mj) (ru := ru) (wa := wa) h110 h108 (hmj) (hV114)) (fun v117 M118 q119 => ?_)
  rcases q119 with q119 | q119
  · skip
    obtain ⟨q40_s, rfl, h120, f121⟩ := q119
    have h123 := (f121.1 c (nin1 (ob_ne h105 h108 (by decide)))).trans h105
    have h124 := (f121.1 b (nin1 (ob_ne h106 h108 (by decide)))).trans h106
    have h125 := (f121.1 da (nin1 (Ne.symm (ob_ar h108 h107)))).trans h107
    have h126 := (f121.1 og (nin1 (ob_ne h109 h108 (by decide)))).trans h109
    have h127 := (f121.1 z0 (nin1 (show z0 ≠ vd by omega))).trans h110
    have h128 := (f121.1 (z0 + 1) (nin1 (show (z0 + 1) ≠ vd by omega))).trans h111
    have h129 := (f121.1 (z0 + 2) (nin1 (show (z0 + 2) ≠ vd by omega))).trans h102
    have tp131 : M118.2.1 = z0 + 3 := by rw [f121.2]; exact tp113
    have hV132 := hV114.keep f121.gm (n7c h108 (by decide) (n7nil))
    have hV133 := hV115.keep f121.gm (n6o h108 (by decide) (n6on))
    have hV134 := hV116.keep f121.gm (n6o h108 (by decide) (n6on))
    show pl _ _ _ (43, [(4, .ref (z0 + 2)), (3, .ref (z0 + 1)), (2, .ref z0), (0, .ref c), (1, .ref vd)], [.int 1], M118) _
    clear h105 h106 h107 h108 h109 h110 h111 h102 hV114 hV115 hV116 f121
    refine ps_if (S1 := (100, [], [], M118)) (S2 := (46, [(4, .ref (z0 + 2)), (3, .ref (z0 + 1)), (2, .ref z0), (0, .ref c), (1, .ref vd)], [], M118)) rfl rfl rfl (fun c_43 => ?_) (fun c_43 => ?_)
    · exact absurd (of_decide_eq_true c_43) (by decide)
    refine ps_st (S' := (48, [(4, .ref (z0 + 2)), (3, .ref (z0 + 1)), (2, .ref z0), (0, .ref c), (1, .ref vd)], [.ref (z0 + 2)], M118)) rfl rfl rfl ?_
    refine pl_call (a := [.ref (z0 + 2)]) (rest := []) rfl rfl rfl (dk_headHolds (f := f) (n := n) (N := N) (q := q) (E := E) (o := (z0 + 2)) (c := c) (b := b) (da := da) (vd := vd) (ac := (z0 + 1)) (fr := fr) (mr := mr) (fa := fa) (ic := ic) (mj := mj) (na := na) (pa := pa) (mi := mi) (ru := ru) (wa := wa) (k1 := k1) (k2 := 0) (k3 := 0) (k4 := 0) (k5 := 0) (k6 := 0) (k7 := (-1)) h129 h123 h124 h125 h120 (hn) (hmj) (hfa) (hV132)) (fun v135 M136 q137 => ?_)
    rcases q137 with q137 | q137
    · skip
      obtain ⟨q48_s, rfl, h138, f139⟩ := q137
      have h141 := (f139.1 c (nin1 (ob_ne h123 h120 (by decide)))).trans h123
      have h142 := (f139.1 b (nin1 (ob_ne h124 h120 (by decide)))).trans h124
      have h143 := (f139.1 da (nin1 (Ne.symm (ob_ar h120 h125)))).trans h125
      have h144 := (f139.1 og (nin1 (ob_ne h126 h120 (by decide)))).trans h126
      have h145 := (f139.1 z0 (nin1 (show z0 ≠ vd by omega))).trans h127
      have h146 := (f139.1 (z0 + 1) (nin1 (show (z0 + 1) ≠ vd by omega))).trans h128
      have h147 := (f139.1 (z0 + 2) (nin1 (show (z0 + 2) ≠ vd by omega))).trans h129
      have tp149 : M136.2.1 = z0 + 3 := by rw [f139.2]; exact tp131
      have hV150 := hV132.keep f139.gm (n7c h120 (by decide) (n7nil))
      have hV151 := hV133.keep f139.gm (n6o h120 (by decide) (n6on))
      have hV152 := hV134.keep f139.gm (n6o h120 (by decide) (n6on))
      show pl _ _ _ (51, [(4, .ref (z0 + 2)), (3, .ref (z0 + 1)), (2, .ref z0), (0, .ref c), (1, .ref vd)], [.int 1], M136) _
      clear h123 h124 h125 h120 h126 h127 h128 h129 hV132 hV133 hV134 f139
      refine ps_if (S1 := (100, [], [], M136)) (S2 := (54, [(4, .ref (z0 + 2)), (3, .ref (z0 + 1)), (2, .ref z0), (0, .ref c), (1, .ref vd)], [], M136)) rfl rfl rfl (fun c_51 => ?_) (fun c_51 => ?_)
      · exact absurd (of_decide_eq_true c_51) (by decide)
      refine ps_st (S' := (56, [(4, .ref (z0 + 2)), (3, .ref (z0 + 1)), (2, .ref z0), (0, .ref c), (1, .ref vd)], [.ref (z0 + 2)], M136)) rfl rfl rfl ?_
      refine pl_call (a := [.ref (z0 + 2)]) (rest := []) rfl rfl rfl (dk_interfacesHold (f := f) (n := n) (N := N) (q := q) (E := E) (o := (z0 + 2)) (c := c) (b := b) (da := da) (vd := vd) (ac := (z0 + 1)) (fr := fr) (mr := mr) (fa := fa) (ic := ic) (mj := mj) (na := na) (pa := pa) (mi := mi) (ru := ru) (wa := wa) (k1 := k1) (k2 := 0) (k3 := 0) (k4 := 0) (k5 := 0) (k6 := 0) (k7 := (-1)) h147 h141 h142 h143 h138 (hn) (hmj) (hfa) (hic) (hV150)) (fun v153 M154 q155 => ?_)
      rcases q155 with q155 | q155
      · skip
        obtain ⟨q56_s, rfl, h156, f157⟩ := q155
        have h159 := (f157.1 c (nin1 (ob_ne h141 h138 (by decide)))).trans h141
        have h160 := (f157.1 b (nin1 (ob_ne h142 h138 (by decide)))).trans h142
        have h161 := (f157.1 da (nin1 (Ne.symm (ob_ar h138 h143)))).trans h143
        have h162 := (f157.1 og (nin1 (ob_ne h144 h138 (by decide)))).trans h144
        have h163 := (f157.1 z0 (nin1 (show z0 ≠ vd by omega))).trans h145
        have h164 := (f157.1 (z0 + 1) (nin1 (show (z0 + 1) ≠ vd by omega))).trans h146
        have h165 := (f157.1 (z0 + 2) (nin1 (show (z0 + 2) ≠ vd by omega))).trans h147
        have tp167 : M154.2.1 = z0 + 3 := by rw [f157.2]; exact tp149
        have hV168 := hV150.keep f157.gm (n7c h138 (by decide) (n7nil))
        have hV169 := hV151.keep f157.gm (n6o h138 (by decide) (n6on))
        have hV170 := hV152.keep f157.gm (n6o h138 (by decide) (n6on))
        show pl _ _ _ (59, [(4, .ref (z0 + 2)), (3, .ref (z0 + 1)), (2, .ref z0), (0, .ref c), (1, .ref vd)], [.int 1], M154) _
        clear h141 h142 h143 h138 h144 h145 h146 h147 hV150 hV151 hV152 f157
        refine ps_if (S1 := (100, [], [], M154)) (S2 := (62, [(4, .ref (z0 + 2)), (3, .ref (z0 + 1)), (2, .ref z0), (0, .ref c), (1, .ref vd)], [], M154)) rfl rfl rfl (fun c_59 => ?_) (fun c_59 => ?_)
        · exact absurd (of_decide_eq_true c_59) (by decide)
        exact dk_holds_b (z9 := M.2.1) (e0 := e0) h163 h164 h165 h159 h160 h161 h156 h162 hn hmj hfa hic hic2 hna hat hB91 hB92 hB1 hB2 hDs (by omega) (by omega) (by omega) (by omega) (by omega) (by omega) (by omega) (by omega) (by omega) (by omega) q40_s q48_s q56_s hV168 hV169 hV170 kf
      · skip
        obtain ⟨e171, q56_s, rfl, h172, f173⟩ := q155
        have h175 := (f173.1 c (nin1 (ob_ne h141 h138 (by decide)))).trans h141
        have h176 := (f173.1 b (nin1 (ob_ne h142 h138 (by decide)))).trans h142
        have h177 := (f173.1 da (nin1 (Ne.symm (ob_ar h138 h143)))).trans h143
        have h178 := (f173.1 og (nin1 (ob_ne h144 h138 (by decide)))).trans h144
        have h179 := (f173.1 z0 (nin1 (show z0 ≠ vd by omega))).trans h145
        have h180 := (f173.1 (z0 + 1) (nin1 (show (z0 + 1) ≠ vd by omega))).trans h146
        have h181 := (f173.1 (z0 + 2) (nin1 (show (z0 + 2) ≠ vd by omega))).trans h147
        have tp183 : M154.2.1 = z0 + 3 := by rw [f173.2]; exact tp149
        have hV184 := hV150.keep f173.gm (n7c h138 (by decide) (n7nil))
        have hV185 := hV151.keep f173.gm (n6o h138 (by decide) (n6on))
        have hV186 := hV152.keep f173.gm (n6o h138 (by decide) (n6on))
        show pl _ _ _ (59, [(4, .ref (z0 + 2)), (3, .ref (z0 + 1)), (2, .ref z0), (0, .ref c), (1, .ref vd)], [.int 0], M154) _
        clear h141 h142 h143 h138 h144 h145 h146 h147 hV150 hV151 hV152 f173
        refine ps_if (S1 := (100, [], [], M154)) (S2 := (62, [(4, .ref (z0 + 2)), (3, .ref (z0 + 1)), (2, .ref z0), (0, .ref c), (1, .ref vd)], [], M154)) rfl rfl rfl (fun c_59 => ?_) (fun c_59 => ?_)
        rotate_left
        · exact absurd (by decide) (of_decide_eq_false c_59)
        refine ps_st (S' := (101, [], [.int 0], M154)) rfl rfl rfl ?_
        exact ps_ret rfl rfl (Or.inr ⟨e171, by
            unfold s_chk
            rw [q40_s]
            try dsimp only
            rw [q48_s]
            try dsimp only
            rw [q56_s]
            try dsimp only
            first | done | rfl, rfl, h172, h178, by omega⟩)
    · skip
      obtain ⟨e187, q48_s, rfl, h188, f189⟩ := q137
      have h191 := (f189.1 c (nin1 (ob_ne h123 h120 (by decide)))).trans h123
      have h192 := (f189.1 b (nin1 (ob_ne h124 h120 (by decide)))).trans h124
      have h193 := (f189.1 da (nin1 (Ne.symm (ob_ar h120 h125)))).trans h125
      have h194 := (f189.1 og (nin1 (ob_ne h126 h120 (by decide)))).trans h126
      have h195 := (f189.1 z0 (nin1 (show z0 ≠ vd by omega))).trans h127
      have h196 := (f189.1 (z0 + 1) (nin1 (show (z0 + 1) ≠ vd by omega))).trans h128
      have h197 := (f189.1 (z0 + 2) (nin1 (show (z0 + 2) ≠ vd by omega))).trans h129
      have tp199 : M136.2.1 = z0 + 3 := by rw [f189.2]; exact tp131
      have hV200 := hV132.keep f189.gm (n7c h120 (by decide) (n7nil))
      have hV201 := hV133.keep f189.gm (n6o h120 (by decide) (n6on))
      have hV202 := hV134.keep f189.gm (n6o h120 (by decide) (n6on))
      show pl _ _ _ (51, [(4, .ref (z0 + 2)), (3, .ref (z0 + 1)), (2, .ref z0), (0, .ref c), (1, .ref vd)], [.int 0], M136) _
      clear h123 h124 h125 h120 h126 h127 h128 h129 hV132 hV133 hV134 f189
      refine ps_if (S1 := (100, [], [], M136)) (S2 := (54, [(4, .ref (z0 + 2)), (3, .ref (z0 + 1)), (2, .ref z0), (0, .ref c), (1, .ref vd)], [], M136)) rfl rfl rfl (fun c_51 => ?_) (fun c_51 => ?_)
      rotate_left
      · exact absurd (by decide) (of_decide_eq_false c_51)
      refine ps_st (S' := (101, [], [.int 0], M136)) rfl rfl rfl ?_
      exact ps_ret rfl rfl (Or.inr ⟨e187, by
          unfold s_chk
          rw [q40_s]
          try dsimp only
          rw [q48_s]
          try dsimp only
          first | done | rfl, rfl, h188, h194, by omega⟩)
  · skip
    obtain ⟨e203, q40_s, rfl, h204, f205⟩ := q119
    have h207 := (f205.1 c (nin1 (ob_ne h105 h108 (by decide)))).trans h105
    have h208 := (f205.1 b (nin1 (ob_ne h106 h108 (by decide)))).trans h106
    have h209 := (f205.1 da (nin1 (Ne.symm (ob_ar h108 h107)))).trans h107
    have h210 := (f205.1 og (nin1 (ob_ne h109 h108 (by decide)))).trans h109
    have h211 := (f205.1 z0 (nin1 (show z0 ≠ vd by omega))).trans h110
    have h212 := (f205.1 (z0 + 1) (nin1 (show (z0 + 1) ≠ vd by omega))).trans h111
    have h213 := (f205.1 (z0 + 2) (nin1 (show (z0 + 2) ≠ vd by omega))).trans h102
    have tp215 : M118.2.1 = z0 + 3 := by rw [f205.2]; exact tp113
    have hV216 := hV114.keep f205.gm (n7c h108 (by decide) (n7nil))
    have hV217 := hV115.keep f205.gm (n6o h108 (by decide) (n6on))
    have hV218 := hV116.keep f205.gm (n6o h108 (by decide) (n6on))
    show pl _ _ _ (43, [(4, .ref (z0 + 2)), (3, .ref (z0 + 1)), (2, .ref z0), (0, .ref c), (1, .ref vd)], [.int 0], M118) _
    clear h105 h106 h107 h108 h109 h110 h111 h102 hV114 hV115 hV116 f205
    refine ps_if (S1 := (100, [], [], M118)) (S2 := (46, [(4, .ref (z0 + 2)), (3, .ref (z0 + 1)), (2, .ref z0), (0, .ref c), (1, .ref vd)], [], M118)) rfl rfl rfl (fun c_43 => ?_) (fun c_43 => ?_)
    rotate_left
    · exact absurd (by decide) (of_decide_eq_false c_43)
    refine ps_st (S' := (101, [], [.int 0], M118)) rfl rfl rfl ?_
    exact ps_ret rfl rfl (Or.inr ⟨e203, by
        unfold s_chk
        rw [q40_s]
        try dsimp only
        first | done | rfl, rfl, h204, h210, by omega⟩)
set_option maxHeartbeats 1000000 in
theorem dk_isWhole {g : xe_G} {M : mi_H} {f : Nat → Int32} {n c b da vd : Nat} {ru wa mi ma fa ic ac aa k1 k2 k3 k4 k5 k6 k7 : Int32} {u1 u6 u7 : Value} {og ga gf : Nat} {gn gw : Int32} {gk : Value} (h_c : M.1 c = some (ob 3 [.ref b, u1, .int mi, .int ma, .int fa, .int ic, u6, u7, .int ac, .int aa, .int k1, .int k2, .int k3, .int k4, .int k5, .int k6, .int k7])) (h_b : M.1 b = some (ob 1 [.ref da])) (h_da : M.1 da = some (ar .byte n f)) (h_vd : M.1 vd = some (ob 10 [.int ru, .int wa])) (h_og : M.1 og = some (ob 11 [.ref ga, .int gn, .ref gf, gk, .int gw])) (hn : n ≤ 65540) (l_c : c < M.2.1) (l_b : b < M.2.1) (l_da : da < M.2.1) (l_vd : vd < M.2.1) (l_og : og < M.2.1) (hL : LT g M) : pt (mT g) 13 [.ref c, .ref vd] M (fun v M' => (∃ (E : List (Nat × Nat)) (q p1 pF pM pA m1 m2 : Nat) (G1 G2 : Nat → Nat), (s_whole f n = .inr (E, p1, pF, pM, pA)) ∧ (q < M'.2.1 ∧ pF + 2 ≤ n ∧ pM + 2 ≤ n) ∧ (s_class f n p1 = .inr pF) ∧ (s_mbs f n pF = .inr pM) ∧ (s_mbs f n pM = .inr pA) ∧ (s_attributes f n pA = .inr n) ∧ (PW g f n (by2 f 8) E q M') ∧ (MV f (mbs f n (by2 f pF) (pF + 2)) m1 G1 0 M') ∧ (MV f (mbs f n (by2 f pM) (pM + 2)) m2 G2 0 M') ∧ (∀ i j, i < (mbs f n (by2 f pF) (pF + 2)).length → j < (mbs f n (by2 f pM) (pM + 2)).length → ¬ G1 i = G2 j) ∧ v = some (.int 1) ∧ M'.1 c = some (ob 3 [.ref b, .ref q, .int (nI (by2 f 4)), .int (nI (by2 f 6)), .int (nI p1), .int (nI (by2 f (p1 + 6))), .ref m1, .ref m2, .int (nI (by2 f pA)), .int (nI (pA + 2)), .int k1, .int k2, .int k3, .int k4, .int k5, .int k6, .int k7]) ∧ M'.1 b = some (ob 1 [.ref da]) ∧ M'.1 da = some (ar .byte n f) ∧ M'.1 vd = some (ob 10 [.int ru, .int wa]) ∧ M'.1 og = some (ob 11 [.ref ga, .int gn, .ref gf, gk, .int gw]) ∧ M.2.1 ≤ M'.2.1) ∨ (∃ (e9 : Nat × Nat), (s_whole f n = .inl e9) ∧ v = some (.int 0) ∧ M'.1 vd = some (ob 10 [.int (nI e9.1), .int (nI e9.2)]) ∧ M'.1 og = some (ob 11 [.ref ga, .int gn, .ref gf, gk, .int gw]) ∧ M.2.1 ≤ M'.2.1)) := by
  refine pt_in (b := mb_13 g) rfl (fun kf => ?_)
  show pl (mT g) kf (mb_13 g).2 (0, [(0, .ref c), (1, .ref vd)], [], M) _
  obtain ⟨z0, tp0⟩ : ∃ z0, M.2.1 = z0 := ⟨_, rfl⟩
  refine ps_newz rfl tp0 (fun M1 h2 f3 tp4 => ?_)
  have h5 := (f3 c (show c ≠ z0 by omega)).trans h_c
  have h6 := (f3 b (show b ≠ z0 by omega)).trans h_b
  have h7 := (f3 da (show da ≠ z0 by omega)).trans h_da
  have h8 := (f3 vd (show vd ≠ z0 by omega)).trans h_vd
  have h9 := (f3 og (show og ≠ z0 by omega)).trans h_og
  have hV10 := hL.new tp0 f3 tp4
  clear h_c h_b h_da h_vd h_og hL f3
  show pl _ _ _ (3, [(0, .ref c), (1, .ref vd)], [.ref z0], M1) _
  refine ps_st (S' := (4, [(0, .ref c), (1, .ref vd)], [.ref z0, .ref z0], M1)) rfl rfl rfl ?_
  refine ps_st (S' := (5, [(0, .ref c), (1, .ref vd)], [.ref c, .ref z0, .ref z0], M1)) rfl rfl rfl ?_
  refine ps_st (S' := (6, [(0, .ref c), (1, .ref vd)], [.ref vd, .ref c, .ref z0, .ref z0], M1)) rfl rfl rfl ?_
  refine pl_call (a := [.ref z0, .ref c, .ref vd]) (rest := [.ref z0]) rfl rfl rfl (dk_reader0 (o9 := z0) (vd := vd) (c := c) (b := b) (mi := mi) (ma := ma) (fa := fa) (ic := ic) (ac := ac) (aa := aa) (k1 := k1) (k2 := k2) (k3 := k3) (k4 := k4) (k5 := k5) (k6 := k6) (k7 := k7) (u1 := u1) (u6 := u6) (u7 := u7) h2 h5) (fun v12 M13 q14 => ?_)
  obtain ⟨rfl, h15, f16⟩ := q14
  have h18 := (f16.1 c (nin1 (show c ≠ z0 by omega))).trans h5
  have h19 := (f16.1 b (nin1 (show b ≠ z0 by omega))).trans h6
  have h20 := (f16.1 da (nin1 (show da ≠ z0 by omega))).trans h7
  have h21 := (f16.1 vd (nin1 (show vd ≠ z0 by omega))).trans h8
  have h22 := (f16.1 og (nin1 (show og ≠ z0 by omega))).trans h9
  have tp24 : M13.2.1 = z0 + 1 := by rw [f16.2]; exact tp4
  have hV25 := hV10.keep f16.gm (n7c h2 (by decide) (n7nil))
  show pl _ _ _ (9, [(0, .ref c), (1, .ref vd)], [.ref z0], M13) _
  clear h5 h6 h7 h8 h9 h2 hV10 f16
  refine ps_st (S' := (10, [(2, .ref z0), (0, .ref c), (1, .ref vd)], [], M13)) rfl rfl rfl ?_
  refine ps_st (S' := (11, [(2, .ref z0), (0, .ref c), (1, .ref vd)], [.ref z0], M13)) rfl rfl rfl ?_
  refine pl_call (a := [.ref z0]) (rest := []) rfl rfl rfl (dk_takesHead (r := z0) (c := c) (b := b) (vd := vd) (da := da) (n := n) (f := f) (it := 0) (ru := ru) (wa := wa) (mi := mi) (ma := ma) (fa := fa) (ic := ic) (ac := ac) (aa := aa) (k1 := k1) (k2 := k2) (k3 := k3) (k4 := k4) (k5 := k5) (k6 := k6) (k7 := k7) (u1 := u1) (u6 := u6) (u7 := u7) h15 h19 h20 h21 h18 (hn)) (fun v26 M27 q28 => ?_)
  rcases q28 with q28 | q28
  · skip
    obtain ⟨q11_s, rfl, h29, h30, h31, f32⟩ := q28
    have h34 := (f32.1 b (nin3 (show b ≠ z0 by omega) (ob_ne h19 h21 (by decide)) (ob_ne h19 h18 (by decide)))).trans h19
    have h35 := (f32.1 da (nin3 (show da ≠ z0 by omega) (Ne.symm (ob_ar h21 h20)) (Ne.symm (ob_ar h18 h20)))).trans h20
    have h36 := (f32.1 og (nin3 (show og ≠ z0 by omega) (ob_ne h22 h21 (by decide)) (ob_ne h22 h18 (by decide)))).trans h22
    have tp38 : M27.2.1 = z0 + 1 := by rw [f32.2]; exact tp24
    have hV39 := hV25.keep f32.gm (n7c h15 (by decide) (n7c h21 (by decide) (n7c h18 (by decide) (n7nil))))
    show pl _ _ _ (14, [(2, .ref z0), (0, .ref c), (1, .ref vd)], [.int 1], M27) _
    have h8 := s_head_8 q11_s
    clear h18 h19 h20 h21 h22 h15 hV25 f32
    refine ps_if (S1 := (56, [], [], M27)) (S2 := (17, [(2, .ref z0), (0, .ref c), (1, .ref vd)], [], M27)) rfl rfl rfl (fun c_14 => ?_) (fun c_14 => ?_)
    · exact absurd (of_decide_eq_true c_14) (by decide)
    refine ps_st (S' := (18, [(2, .ref z0), (0, .ref c), (1, .ref vd)], [.ref z0], M27)) rfl rfl rfl ?_
    refine pl_call (a := [.ref z0]) (rest := []) rfl rfl rfl (dk_takesPool (r := z0) (c := c) (b := b) (vd := vd) (da := da) (n := n) (mj := (by2 f 6)) (f := f) (it := (nI (by2 f 6))) (ru := ru) (wa := wa) (mi := (nI (by2 f 4))) (fa := fa) (ic := ic) (ac := ac) (aa := aa) (k1 := k1) (k2 := k2) (k3 := k3) (k4 := k4) (k5 := k5) (k6 := k6) (k7 := k7) (u1 := u1) (u6 := u6) (u7 := u7) h29 h34 h35 h30 h31 (hn) (h8) (by2_lt _ _) (by omega) (by omega) (by omega) (by omega) (by omega)) (fun v40 M41 q42 => ?_)
    rcases q42 with q42 | q42
    · skip
      obtain ⟨p'43, cc44, it'45, E46, F147, F248, F349, F450, F651, q18_s, q18_c, q18_e, q18_h, rfl, h52, h53, h54, h55, h56, h57, h58, h59, h60, h61, f62, tp63⟩ := q42
      rw [tp38] at h54 h55 h56 h57 h58 h59 h60 h61 tp63
      have h64 := (f62.1 b (by omega) (nin3 (show b ≠ z0 by omega) (ob_ne h34 h30 (by decide)) (ob_ne h34 h31 (by decide)))).trans h34
      have h65 := (f62.1 da (by omega) (nin3 (show da ≠ z0 by omega) (Ne.symm (ob_ar h30 h35)) (Ne.symm (ob_ar h31 h35)))).trans h35
      have h66 := (f62.1 og (by omega) (nin3 (show og ≠ z0 by omega) (ob_ne h36 h30 (by decide)) (ob_ne h36 h31 (by decide)))).trans h36
      have hV68 := hV39.keep f62 (n7c h29 (by decide) (n7c h30 (by decide) (n7c h31 (by decide) (n7nil))))
      show pl _ _ _ (21, [(2, .ref z0), (0, .ref c), (1, .ref vd)], [.int 1], M41) _
      have hW := PW_of hV68 hn q18_s q18_c q18_e q18_h h55 h56 h57 h58 h59 h60 h61 (by omega)
      clear h31 h34 h35 h30 h36 h29 hV39 f62
      refine ps_if (S1 := (56, [], [], M41)) (S2 := (24, [(2, .ref z0), (0, .ref c), (1, .ref vd)], [], M41)) rfl rfl rfl (fun c_21 => ?_) (fun c_21 => ?_)
      · exact absurd (of_decide_eq_true c_21) (by decide)
      refine ps_st (S' := (25, [(2, .ref z0), (0, .ref c), (1, .ref vd)], [.ref z0], M41)) rfl rfl rfl ?_
      refine pl_call (a := [.ref z0]) (rest := []) rfl rfl rfl (dk_takesClass (r := z0) (c := c) (b := b) (vd := vd) (da := da) (n := n) (p := p'43) (q := (z0 + 1)) (f := f) (it := it'45) (ru := ru) (wa := wa) (mi := (nI (by2 f 4))) (ma := (nI (by2 f 6))) (fa := fa) (ic := ic) (ac := ac) (aa := aa) (k1 := k1) (k2 := k2) (k3 := k3) (k4 := k4) (k5 := k5) (k6 := k6) (k7 := k7) (u6 := u6) (u7 := u7) h52 h64 h65 h53 h54 (hn) (by omega)) (fun v69 M70 q71 => ?_)
      rcases q71 with q71 | q71
      · skip
        obtain ⟨p'72, it'73, q25_s, rfl, h74, h75, h76, f77⟩ := q71
        have h79 := (f77.1 b (nin3 (show b ≠ z0 by omega) (ob_ne h64 h53 (by decide)) (ob_ne h64 h54 (by decide)))).trans h64
        have h80 := (f77.1 da (nin3 (show da ≠ z0 by omega) (Ne.symm (ob_ar h53 h65)) (Ne.symm (ob_ar h54 h65)))).trans h65
        have h81 := (f77.1 og (nin3 (show og ≠ z0 by omega) (ob_ne h66 h53 (by decide)) (ob_ne h66 h54 (by decide)))).trans h66
        have tp83 : M70.2.1 = z0 + 8 := by rw [f77.2]; exact tp63
        have hV84 := hW.keep f77.gm (n7c h52 (by decide) (n7c h53 (by decide) (n7c h54 (by decide) (n7nil))))
        show pl _ _ _ (28, [(2, .ref z0), (0, .ref c), (1, .ref vd)], [.int 1], M70) _
        have hcl := s_class_in q25_s
        clear h54 h64 h65 h53 h66 h52 hW f77
        refine ps_if (S1 := (56, [], [], M70)) (S2 := (31, [(2, .ref z0), (0, .ref c), (1, .ref vd)], [], M70)) rfl rfl rfl (fun c_28 => ?_) (fun c_28 => ?_)
        · exact absurd (of_decide_eq_true c_28) (by decide)
        refine ps_st (S' := (32, [(2, .ref z0), (0, .ref c), (1, .ref vd)], [.ref z0], M70)) rfl rfl rfl ?_
        refine pl_call (a := [.ref z0]) (rest := []) rfl rfl rfl (dk_takesFields (r := z0) (c := c) (b := b) (vd := vd) (da := da) (n := n) (p := p'72) (q := (z0 + 1)) (fa := p'43) (ic := (by2 f (p'43 + 6))) (mj := (by2 f 6)) (f := f) (it := it'73) (ru := ru) (wa := wa) (mi := (nI (by2 f 4))) (x8 := ac) (x9 := aa) (k1 := k1) (k2 := k2) (k3 := k3) (k4 := k4) (k5 := k5) (k6 := k6) (k7 := k7) (u6 := u6) (u7 := u7) h74 h79 h80 h75 h76 (hn) (by omega) (by omega) (by omega) (by omega) (by omega) (by omega)) (fun v85 M86 q87 => ?_)
        rcases q87 with q87 | q87
        · skip
          obtain ⟨p'88, mm89, it'90, G91, q32_s, q32_n, q32_G, q32_V, rfl, h92, h93, h94, f95, tp96⟩ := q87
          have h97 := (f95.1 b (by omega) (nin3 (show b ≠ z0 by omega) (ob_ne h79 h75 (by decide)) (ob_ne h79 h76 (by decide)))).trans h79
          have h98 := (f95.1 da (by omega) (nin3 (show da ≠ z0 by omega) (Ne.symm (ob_ar h75 h80)) (Ne.symm (ob_ar h76 h80)))).trans h80
          have h99 := (f95.1 og (by omega) (nin3 (show og ≠ z0 by omega) (ob_ne h81 h75 (by decide)) (ob_ne h81 h76 (by decide)))).trans h81
          obtain ⟨t101, tp102⟩ : ∃ t9, M86.2.1 = t9 := ⟨_, rfl⟩
          rw [tp83, tp102] at tp96
          have hV103 := hV84.keep f95 (n7c h74 (by decide) (n7c h75 (by decide) (n7c h76 (by decide) (n7nil))))
          show pl _ _ _ (35, [(2, .ref z0), (0, .ref c), (1, .ref vd)], [.int 1], M86) _
          have hle32 := s_mbs_le q32_s
          clear h76 h79 h80 h75 h81 h74 hV84 f95
          refine ps_if (S1 := (56, [], [], M86)) (S2 := (38, [(2, .ref z0), (0, .ref c), (1, .ref vd)], [], M86)) rfl rfl rfl (fun c_35 => ?_) (fun c_35 => ?_)
          · exact absurd (of_decide_eq_true c_35) (by decide)
          refine ps_st (S' := (39, [(2, .ref z0), (0, .ref c), (1, .ref vd)], [.ref z0], M86)) rfl rfl rfl ?_
          refine pl_call (a := [.ref z0]) (rest := []) rfl rfl rfl (dk_takesMethods (r := z0) (c := c) (b := b) (vd := vd) (da := da) (n := n) (p := p'88) (q := (z0 + 1)) (fa := p'43) (ic := (by2 f (p'43 + 6))) (mj := (by2 f 6)) (f := f) (it := it'90) (ru := ru) (wa := wa) (mi := (nI (by2 f 4))) (x8 := ac) (x9 := aa) (k1 := k1) (k2 := k2) (k3 := k3) (k4 := k4) (k5 := k5) (k6 := k6) (k7 := k7) (m1 := mm89) (u7 := u7) h92 h97 h98 h93 h94 (hn) (by omega) (by omega) (by omega) (by omega) (by omega) (by omega)) (fun v104 M105 q106 => ?_)
          rcases q106 with q106 | q106
          · skip
            obtain ⟨p'107, mm108, it'109, G110, q39_s, q39_n, q39_G, q39_V, rfl, h111, h112, h113, f114, tp115⟩ := q106
            have h116 := (f114.1 b (by omega) (nin3 (show b ≠ z0 by omega) (ob_ne h97 h93 (by decide)) (ob_ne h97 h94 (by decide)))).trans h97
            have h117 := (f114.1 da (by omega) (nin3 (show da ≠ z0 by omega) (Ne.symm (ob_ar h93 h98)) (Ne.symm (ob_ar h94 h98)))).trans h98
            have h118 := (f114.1 og (by omega) (nin3 (show og ≠ z0 by omega) (ob_ne h99 h93 (by decide)) (ob_ne h99 h94 (by decide)))).trans h99
            obtain ⟨t120, tp121⟩ : ∃ t9, M105.2.1 = t9 := ⟨_, rfl⟩
            rw [tp102, tp121] at tp115
            have hV122 := hV103.keep f114 (n7c h92 (by decide) (n7c h93 (by decide) (n7c h94 (by decide) (n7nil))))
            have hV123 := q32_V.keep f114 (n6o h92 (by decide) (n6o h93 (by decide) (n6o h94 (by decide) (n6on))))
            show pl _ _ _ (42, [(2, .ref z0), (0, .ref c), (1, .ref vd)], [.int 1], M105) _
            have hle39 := s_mbs_le q39_s
            have hDs : ∀ i j, i < (mbs f n (by2 f p'72) (p'72 + 2)).length → j < (mbs f n (by2 f p'88) (p'88 + 2)).length → ¬ G91 i = G110 j := fun i j hi _ e9 => by
              have h1 := (q32_V.2.2.2 i hi).1
              have h2 := q39_G j
              omega
            clear h94 h97 h98 h93 h99 h92 hV103 q32_V f114
            refine ps_if (S1 := (56, [], [], M105)) (S2 := (45, [(2, .ref z0), (0, .ref c), (1, .ref vd)], [], M105)) rfl rfl rfl (fun c_42 => ?_) (fun c_42 => ?_)
            · exact absurd (of_decide_eq_true c_42) (by decide)
            refine ps_st (S' := (46, [(2, .ref z0), (0, .ref c), (1, .ref vd)], [.ref z0], M105)) rfl rfl rfl ?_
            refine pl_call (a := [.ref z0]) (rest := []) rfl rfl rfl (dk_takesEnd (r := z0) (c := c) (b := b) (vd := vd) (da := da) (n := n) (p := p'107) (q := (z0 + 1)) (fa := p'43) (ic := (by2 f (p'43 + 6))) (mj := (by2 f 6)) (f := f) (it := it'109) (ru := ru) (wa := wa) (mi := (nI (by2 f 4))) (x8 := ac) (x9 := aa) (k1 := k1) (k2 := k2) (k3 := k3) (k4 := k4) (k5 := k5) (k6 := k6) (k7 := k7) (m1 := mm89) (m2 := mm108) h111 h116 h117 h112 h113 (hn) (by omega)) (fun v124 M125 q126 => ?_)
            rcases q126 with q126 | q126
            · skip
              obtain ⟨it'127, q46_s, q46_a, rfl, h128, h129, h130, f131⟩ := q126
              have h133 := (f131.1 b (nin3 (show b ≠ z0 by omega) (ob_ne h116 h112 (by decide)) (ob_ne h116 h113 (by decide)))).trans h116
              have h134 := (f131.1 da (nin3 (show da ≠ z0 by omega) (Ne.symm (ob_ar h112 h117)) (Ne.symm (ob_ar h113 h117)))).trans h117
              have h135 := (f131.1 og (nin3 (show og ≠ z0 by omega) (ob_ne h118 h112 (by decide)) (ob_ne h118 h113 (by decide)))).trans h118
              have tp137 : M125.2.1 = t120 := by rw [f131.2]; exact tp121
              have hV138 := hV122.keep f131.gm (n7c h111 (by decide) (n7c h112 (by decide) (n7c h113 (by decide) (n7nil))))
              have hV139 := hV123.keep f131.gm (n6o h111 (by decide) (n6o h112 (by decide) (n6o h113 (by decide) (n6on))))
              have hV140 := q39_V.keep f131.gm (n6o h111 (by decide) (n6o h112 (by decide) (n6o h113 (by decide) (n6on))))
              show pl _ _ _ (49, [(2, .ref z0), (0, .ref c), (1, .ref vd)], [.int 1], M125) _
              clear h113 h116 h117 h112 h118 h111 hV122 hV123 q39_V f131
              refine ps_if (S1 := (56, [], [], M125)) (S2 := (52, [(2, .ref z0), (0, .ref c), (1, .ref vd)], [], M125)) rfl rfl rfl (fun c_49 => ?_) (fun c_49 => ?_)
              · exact absurd (of_decide_eq_true c_49) (by decide)
              refine ps_st (S' := (53, [(2, .ref z0), (0, .ref c), (1, .ref vd)], [.int 1], M125)) rfl rfl rfl ?_
              refine ps_st (S' := (57, [], [.int 1], M125)) rfl rfl rfl ?_
              exact ps_ret rfl rfl (Or.inl ⟨E46, (z0 + 1), p'43, p'72, p'88, p'107, mm89, mm108, G91, G110, by
                  unfold s_whole
                  rw [q11_s]
                  rw [if_neg (fun h => h rfl)]
                  rw [q18_s]
                  try dsimp only
                  rw [q25_s]
                  try dsimp only
                  rw [q32_s]
                  try dsimp only
                  rw [q39_s]
                  try dsimp only
                  rw [q46_s]
                  try dsimp only
                  first | done | rfl, ⟨hV138.qlt, by omega, by omega⟩, q25_s, q32_s, q39_s, q46_a, hV138, hV139, hV140, hDs, rfl, h130, h133, h134, h129, h135, by omega⟩)
            · skip
              obtain ⟨e141, q46_s, rfl, h142, f143⟩ := q126
              have h145 := (f143.1 b (nin3 (show b ≠ z0 by omega) (ob_ne h116 h112 (by decide)) (ob_ne h116 h113 (by decide)))).trans h116
              have h146 := (f143.1 da (nin3 (show da ≠ z0 by omega) (Ne.symm (ob_ar h112 h117)) (Ne.symm (ob_ar h113 h117)))).trans h117
              have h147 := (f143.1 og (nin3 (show og ≠ z0 by omega) (ob_ne h118 h112 (by decide)) (ob_ne h118 h113 (by decide)))).trans h118
              have tp149 : M125.2.1 = t120 := by rw [f143.2]; exact tp121
              have hV150 := hV122.keep f143.gm (n7c h111 (by decide) (n7c h112 (by decide) (n7c h113 (by decide) (n7nil))))
              have hV151 := hV123.keep f143.gm (n6o h111 (by decide) (n6o h112 (by decide) (n6o h113 (by decide) (n6on))))
              have hV152 := q39_V.keep f143.gm (n6o h111 (by decide) (n6o h112 (by decide) (n6o h113 (by decide) (n6on))))
              show pl _ _ _ (49, [(2, .ref z0), (0, .ref c), (1, .ref vd)], [.int 0], M125) _
              clear h113 h116 h117 h112 h118 h111 hV122 hV123 q39_V f143
              refine ps_if (S1 := (56, [], [], M125)) (S2 := (52, [(2, .ref z0), (0, .ref c), (1, .ref vd)], [], M125)) rfl rfl rfl (fun c_49 => ?_) (fun c_49 => ?_)
              rotate_left
              · exact absurd (by decide) (of_decide_eq_false c_49)
              refine ps_st (S' := (57, [], [.int 0], M125)) rfl rfl rfl ?_
              exact ps_ret rfl rfl (Or.inr ⟨e141, by
                  unfold s_whole
                  rw [q11_s]
                  rw [if_neg (fun h => h rfl)]
                  rw [q18_s]
                  try dsimp only
                  rw [q25_s]
                  try dsimp only
                  rw [q32_s]
                  try dsimp only
                  rw [q39_s]
                  try dsimp only
                  rw [q46_s]
                  try dsimp only
                  first | done | rfl, rfl, h142, h147, by omega⟩)
          · skip
            obtain ⟨e153, q39_s, rfl, h154, f155, tp156⟩ := q106
            have h157 := (f155.1 b (by omega) (nin3 (show b ≠ z0 by omega) (ob_ne h97 h93 (by decide)) (ob_ne h97 h94 (by decide)))).trans h97
            have h158 := (f155.1 da (by omega) (nin3 (show da ≠ z0 by omega) (Ne.symm (ob_ar h93 h98)) (Ne.symm (ob_ar h94 h98)))).trans h98
            have h159 := (f155.1 og (by omega) (nin3 (show og ≠ z0 by omega) (ob_ne h99 h93 (by decide)) (ob_ne h99 h94 (by decide)))).trans h99
            obtain ⟨t161, tp162⟩ : ∃ t9, M105.2.1 = t9 := ⟨_, rfl⟩
            rw [tp102, tp162] at tp156
            have hV163 := hV103.keep f155 (n7c h92 (by decide) (n7c h93 (by decide) (n7c h94 (by decide) (n7nil))))
            have hV164 := q32_V.keep f155 (n6o h92 (by decide) (n6o h93 (by decide) (n6o h94 (by decide) (n6on))))
            show pl _ _ _ (42, [(2, .ref z0), (0, .ref c), (1, .ref vd)], [.int 0], M105) _
            clear h94 h97 h98 h93 h99 h92 hV103 q32_V f155
            refine ps_if (S1 := (56, [], [], M105)) (S2 := (45, [(2, .ref z0), (0, .ref c), (1, .ref vd)], [], M105)) rfl rfl rfl (fun c_42 => ?_) (fun c_42 => ?_)
            rotate_left
            · exact absurd (by decide) (of_decide_eq_false c_42)
            refine ps_st (S' := (57, [], [.int 0], M105)) rfl rfl rfl ?_
            exact ps_ret rfl rfl (Or.inr ⟨e153, by
                unfold s_whole
                rw [q11_s]
                rw [if_neg (fun h => h rfl)]
                rw [q18_s]
                try dsimp only
                rw [q25_s]
                try dsimp only
                rw [q32_s]
                try dsimp only
                rw [q39_s]
                try dsimp only
                first | done | rfl, rfl, h154, h159, by omega⟩)
        · skip
          obtain ⟨e165, q32_s, rfl, h166, f167, tp168⟩ := q87
          have h169 := (f167.1 b (by omega) (nin3 (show b ≠ z0 by omega) (ob_ne h79 h75 (by decide)) (ob_ne h79 h76 (by decide)))).trans h79
          have h170 := (f167.1 da (by omega) (nin3 (show da ≠ z0 by omega) (Ne.symm (ob_ar h75 h80)) (Ne.symm (ob_ar h76 h80)))).trans h80
          have h171 := (f167.1 og (by omega) (nin3 (show og ≠ z0 by omega) (ob_ne h81 h75 (by decide)) (ob_ne h81 h76 (by decide)))).trans h81
          obtain ⟨t173, tp174⟩ : ∃ t9, M86.2.1 = t9 := ⟨_, rfl⟩
          rw [tp83, tp174] at tp168
          have hV175 := hV84.keep f167 (n7c h74 (by decide) (n7c h75 (by decide) (n7c h76 (by decide) (n7nil))))
          show pl _ _ _ (35, [(2, .ref z0), (0, .ref c), (1, .ref vd)], [.int 0], M86) _
          clear h76 h79 h80 h75 h81 h74 hV84 f167
          refine ps_if (S1 := (56, [], [], M86)) (S2 := (38, [(2, .ref z0), (0, .ref c), (1, .ref vd)], [], M86)) rfl rfl rfl (fun c_35 => ?_) (fun c_35 => ?_)
          rotate_left
          · exact absurd (by decide) (of_decide_eq_false c_35)
          refine ps_st (S' := (57, [], [.int 0], M86)) rfl rfl rfl ?_
          exact ps_ret rfl rfl (Or.inr ⟨e165, by
              unfold s_whole
              rw [q11_s]
              rw [if_neg (fun h => h rfl)]
              rw [q18_s]
              try dsimp only
              rw [q25_s]
              try dsimp only
              rw [q32_s]
              try dsimp only
              first | done | rfl, rfl, h166, h171, by omega⟩)
      · skip
        obtain ⟨e176, q25_s, rfl, h177, f178⟩ := q71
        have h180 := (f178.1 b (nin3 (show b ≠ z0 by omega) (ob_ne h64 h53 (by decide)) (ob_ne h64 h54 (by decide)))).trans h64
        have h181 := (f178.1 da (nin3 (show da ≠ z0 by omega) (Ne.symm (ob_ar h53 h65)) (Ne.symm (ob_ar h54 h65)))).trans h65
        have h182 := (f178.1 og (nin3 (show og ≠ z0 by omega) (ob_ne h66 h53 (by decide)) (ob_ne h66 h54 (by decide)))).trans h66
        have tp184 : M70.2.1 = z0 + 8 := by rw [f178.2]; exact tp63
        have hV185 := hW.keep f178.gm (n7c h52 (by decide) (n7c h53 (by decide) (n7c h54 (by decide) (n7nil))))
        show pl _ _ _ (28, [(2, .ref z0), (0, .ref c), (1, .ref vd)], [.int 0], M70) _
        clear h54 h64 h65 h53 h66 h52 hW f178
        refine ps_if (S1 := (56, [], [], M70)) (S2 := (31, [(2, .ref z0), (0, .ref c), (1, .ref vd)], [], M70)) rfl rfl rfl (fun c_28 => ?_) (fun c_28 => ?_)
        rotate_left
        · exact absurd (by decide) (of_decide_eq_false c_28)
        refine ps_st (S' := (57, [], [.int 0], M70)) rfl rfl rfl ?_
        exact ps_ret rfl rfl (Or.inr ⟨e176, by
            unfold s_whole
            rw [q11_s]
            rw [if_neg (fun h => h rfl)]
            rw [q18_s]
            try dsimp only
            rw [q25_s]
            try dsimp only
            first | done | rfl, rfl, h177, h182, by omega⟩)
    · skip
      obtain ⟨e186, q18_s, rfl, h187, f188, tp189⟩ := q42
      have h190 := (f188.1 b (by omega) (nin3 (show b ≠ z0 by omega) (ob_ne h34 h30 (by decide)) (ob_ne h34 h31 (by decide)))).trans h34
      have h191 := (f188.1 da (by omega) (nin3 (show da ≠ z0 by omega) (Ne.symm (ob_ar h30 h35)) (Ne.symm (ob_ar h31 h35)))).trans h35
      have h192 := (f188.1 og (by omega) (nin3 (show og ≠ z0 by omega) (ob_ne h36 h30 (by decide)) (ob_ne h36 h31 (by decide)))).trans h36
      obtain ⟨t194, tp195⟩ : ∃ t9, M41.2.1 = t9 := ⟨_, rfl⟩
      rw [tp38, tp195] at tp189
      have hV196 := hV39.keep f188 (n7c h29 (by decide) (n7c h30 (by decide) (n7c h31 (by decide) (n7nil))))
      show pl _ _ _ (21, [(2, .ref z0), (0, .ref c), (1, .ref vd)], [.int 0], M41) _
      clear h31 h34 h35 h30 h36 h29 hV39 f188
      refine ps_if (S1 := (56, [], [], M41)) (S2 := (24, [(2, .ref z0), (0, .ref c), (1, .ref vd)], [], M41)) rfl rfl rfl (fun c_21 => ?_) (fun c_21 => ?_)
      rotate_left
      · exact absurd (by decide) (of_decide_eq_false c_21)
      refine ps_st (S' := (57, [], [.int 0], M41)) rfl rfl rfl ?_
      exact ps_ret rfl rfl (Or.inr ⟨e186, by
          unfold s_whole
          rw [q11_s]
          rw [if_neg (fun h => h rfl)]
          rw [q18_s]
          try dsimp only
          first | done | rfl, rfl, h187, h192, by omega⟩)
  · skip
    obtain ⟨e1197, e2198, q11_s, q11_e, rfl, h199, f200⟩ := q28
    have h202 := (f200.1 b (nin3 (show b ≠ z0 by omega) (ob_ne h19 h21 (by decide)) (ob_ne h19 h18 (by decide)))).trans h19
    have h203 := (f200.1 da (nin3 (show da ≠ z0 by omega) (Ne.symm (ob_ar h21 h20)) (Ne.symm (ob_ar h18 h20)))).trans h20
    have h204 := (f200.1 og (nin3 (show og ≠ z0 by omega) (ob_ne h22 h21 (by decide)) (ob_ne h22 h18 (by decide)))).trans h22
    have tp206 : M27.2.1 = z0 + 1 := by rw [f200.2]; exact tp24
    have hV207 := hV25.keep f200.gm (n7c h15 (by decide) (n7c h21 (by decide) (n7c h18 (by decide) (n7nil))))
    show pl _ _ _ (14, [(2, .ref z0), (0, .ref c), (1, .ref vd)], [.int 0], M27) _
    clear h18 h19 h20 h21 h22 h15 hV25 f200
    refine ps_if (S1 := (56, [], [], M27)) (S2 := (17, [(2, .ref z0), (0, .ref c), (1, .ref vd)], [], M27)) rfl rfl rfl (fun c_14 => ?_) (fun c_14 => ?_)
    rotate_left
    · exact absurd (by decide) (of_decide_eq_false c_14)
    refine ps_st (S' := (57, [], [.int 0], M27)) rfl rfl rfl ?_
    exact ps_ret rfl rfl (Or.inr ⟨(e1197, e2198), by
        unfold s_whole
        rw [q11_s]
        rw [if_pos (by assumption)], rfl, h199, h204, by omega⟩)
set_option maxHeartbeats 1000000 in
theorem dk_read {g : xe_G} {M : mi_H} {f : Nat → Int32} {n o ca da : Nat} {cn wp : Int32} {kv : Value} (h_o : M.1 o = some (ob 11 [.ref ca, .int cn, .ref da, kv, .int wp])) (h_da : M.1 da = some (ar .byte n f)) (hn : n ≤ 65540) (l_o : o < M.2.1) (l_da : da < M.2.1) (hL : LT g M) : pt (mT g) 18 [.ref o] M (fun v M' => (∃ (kv2 : Value), v = some (.int (rdR (s_read f n))) ∧ M'.1 o = some (ob 11 [.ref ca, .int cn, .ref g.1, kv2, .int (rdP (s_read f n))]) ∧ M.2.1 ≤ M'.2.1)) := by
  refine pt_in (b := mb_18 g) rfl (fun kf => ?_)
  show pl (mT g) kf (mb_18 g).2 (0, [(0, .ref o)], [], M) _
  obtain ⟨z0, tp0⟩ : ∃ z0, M.2.1 = z0 := ⟨_, rfl⟩
  refine ps_newz rfl tp0 (fun M1 h2 f3 tp4 => ?_)
  have h5 := (f3 o (show o ≠ z0 by omega)).trans h_o
  have h6 := (f3 da (show da ≠ z0 by omega)).trans h_da
  have hV7 := hL.new tp0 f3 tp4
  clear h_o h_da hL f3
  show pl _ _ _ (3, [(0, .ref o)], [.ref z0], M1) _
  refine ps_st (S' := (4, [(0, .ref o)], [.ref z0, .ref z0], M1)) rfl rfl rfl ?_
  refine ps_newz rfl tp4 (fun M9 h10 f11 tp12 => ?_)
  have h13 := (f11 o (show o ≠ (z0 + 1) by omega)).trans h5
  have h14 := (f11 da (show da ≠ (z0 + 1) by omega)).trans h6
  have h15 := (f11 z0 (show z0 ≠ (z0 + 1) by omega)).trans h2
  have hV16 := hV7.new tp4 f11 tp12
  clear h5 h6 h2 hV7 f11
  show pl _ _ _ (7, [(0, .ref o)], [.ref (z0 + 1), .ref z0, .ref z0], M9) _
  refine ps_st (S' := (8, [(0, .ref o)], [.ref (z0 + 1), .ref (z0 + 1), .ref z0, .ref z0], M9)) rfl rfl rfl ?_
  refine ps_st (S' := (9, [(0, .ref o)], [.ref o, .ref (z0 + 1), .ref (z0 + 1), .ref z0, .ref z0], M9)) rfl rfl rfl ?_
  refine ps_get (S' := (12, [(0, .ref o)], [.ref da, .ref (z0 + 1), .ref (z0 + 1), .ref z0, .ref z0], M9)) rfl h13 rfl rfl ?_
  refine pl_call (a := [.ref (z0 + 1), .ref da]) (rest := [.ref (z0 + 1), .ref z0, .ref z0]) rfl rfl rfl (dk_bytes0 (o1 := (z0 + 1)) (da := da) h10) (fun v18 M19 q20 => ?_)
  obtain ⟨rfl, h21, f22⟩ := q20
  have h24 := (f22.1 o (nin1 (show o ≠ (z0 + 1) by omega))).trans h13
  have h25 := (f22.1 da (nin1 (show da ≠ (z0 + 1) by omega))).trans h14
  have h26 := (f22.1 z0 (nin1 (show z0 ≠ (z0 + 1) by omega))).trans h15
  have tp28 : M19.2.1 = z0 + 2 := by rw [f22.2]; exact tp12
  have hV29 := hV16.keep f22.gm (n7c h10 (by decide) (n7nil))
  show pl _ _ _ (15, [(0, .ref o)], [.ref (z0 + 1), .ref z0, .ref z0], M19) _
  clear h13 h14 h15 h10 hV16 f22
  refine pl_call (a := [.ref z0, .ref (z0 + 1)]) (rest := [.ref z0]) rfl rfl rfl (dk_classFile0 (o3 := z0) (b := (z0 + 1)) h26 (by omega)) (fun v30 M31 q32 => ?_)
  obtain ⟨u133, u634, u735, rfl, h36, f37, tp38⟩ := q32
  have h39 := (f37.1 o (by omega) (nin1 (show o ≠ z0 by omega))).trans h24
  have h40 := (f37.1 da (by omega) (nin1 (show da ≠ z0 by omega))).trans h25
  have h41 := (f37.1 (z0 + 1) (by omega) (nin1 (show (z0 + 1) ≠ z0 by omega))).trans h21
  obtain ⟨t43, tp44⟩ : ∃ t9, M31.2.1 = t9 := ⟨_, rfl⟩
  rw [tp28, tp44] at tp38
  have hV45 := hV29.keep f37 (n7c h26 (by decide) (n7nil))
  show pl _ _ _ (18, [(0, .ref o)], [.ref z0], M31) _
  clear h24 h25 h26 h21 hV29 f37
  refine ps_st (S' := (19, [(1, .ref z0), (0, .ref o)], [], M31)) rfl rfl rfl ?_
  refine ps_newz rfl tp44 (fun M46 h47 f48 tp49 => ?_)
  have h50 := (f48 o (show o ≠ t43 by omega)).trans h39
  have h51 := (f48 da (show da ≠ t43 by omega)).trans h40
  have h52 := (f48 z0 (show z0 ≠ t43 by omega)).trans h36
  have h53 := (f48 (z0 + 1) (show (z0 + 1) ≠ t43 by omega)).trans h41
  have hV54 := hV45.new tp44 f48 tp49
  clear h39 h40 h36 h41 hV45 f48
  show pl _ _ _ (22, [(1, .ref z0), (0, .ref o)], [.ref t43], M46) _
  refine ps_st (S' := (23, [(1, .ref z0), (0, .ref o)], [.ref t43, .ref t43], M46)) rfl rfl rfl ?_
  refine pl_call (a := [.ref t43]) (rest := [.ref t43]) rfl rfl rfl (dk_verdict0 (o10 := t43) h47) (fun v56 M57 q58 => ?_)
  obtain ⟨rfl, h59, f60⟩ := q58
  have h62 := (f60.1 o (nin1 (show o ≠ t43 by omega))).trans h50
  have h63 := (f60.1 da (nin1 (show da ≠ t43 by omega))).trans h51
  have h64 := (f60.1 z0 (nin1 (show z0 ≠ t43 by omega))).trans h52
  have h65 := (f60.1 (z0 + 1) (nin1 (show (z0 + 1) ≠ t43 by omega))).trans h53
  have tp67 : M57.2.1 = t43 + 1 := by rw [f60.2]; exact tp49
  have hV68 := hV54.keep f60.gm (n7c h47 (by decide) (n7nil))
  show pl _ _ _ (26, [(1, .ref z0), (0, .ref o)], [.ref t43], M57) _
  clear h50 h51 h52 h53 h47 hV54 f60
  refine ps_st (S' := (27, [(2, .ref t43), (1, .ref z0), (0, .ref o)], [], M57)) rfl rfl rfl ?_
  refine ps_st (S' := (28, [(2, .ref t43), (1, .ref z0), (0, .ref o)], [.ref o], M57)) rfl rfl rfl ?_
  refine ps_st (S' := (31, [(2, .ref t43), (1, .ref z0), (0, .ref o)], [.ref g.1, .ref o], M57)) rfl rfl rfl ?_
  refine ps_put (l' := [.ref ca, .int cn, .ref g.1, kv, .int wp]) rfl h62 rfl rfl (fun M69 h70 f71 z72 => ?_)
  have h73 := (f71 da (Ne.symm (ob_ar h62 h63))).trans h63
  have h74 := (f71 z0 (show z0 ≠ o by omega)).trans h64
  have h75 := (f71 (z0 + 1) (show (z0 + 1) ≠ o by omega)).trans h65
  have h76 := (f71 t43 (show t43 ≠ o by omega)).trans h59
  have hV77 := hV68.put h62 (by decide) f71 z72
  have tp79 : M69.2.1 = t43 + 1 := by rw [z72]; exact tp67
  clear h62 h63 h64 h65 h59 hV68 f71
  show pl _ _ _ (34, [(2, .ref t43), (1, .ref z0), (0, .ref o)], [], M69) _
  refine ps_st (S' := (35, [(2, .ref t43), (1, .ref z0), (0, .ref o)], [.ref z0], M69)) rfl rfl rfl ?_
  refine ps_st (S' := (36, [(2, .ref t43), (1, .ref z0), (0, .ref o)], [.ref t43, .ref z0], M69)) rfl rfl rfl ?_
  refine pl_call (a := [.ref z0, .ref t43]) (rest := []) rfl rfl rfl (dk_isWhole (f := f) (n := n) (c := z0) (b := (z0 + 1)) (da := da) (vd := t43) (ru := 0) (wa := (-1)) (mi := 0) (ma := 0) (fa := 0) (ic := 0) (ac := 0) (aa := 0) (k1 := 0) (k2 := 0) (k3 := 0) (k4 := 0) (k5 := 0) (k6 := 0) (k7 := (-1)) (u1 := u133) (u6 := u634) (u7 := u735) (og := o) (ga := ca) (gf := g.1) (gn := cn) (gw := wp) (gk := kv) h74 h75 h73 h76 h70 (hn) (by omega) (by omega) (by omega) (by omega) (by omega) (hV77)) (fun v80 M81 q82 => ?_)
  rcases q82 with q82 | q82
  · skip
    obtain ⟨E83, q84, p185, pF86, pM87, pA88, m189, m290, G191, G292, q36_s, q36_b, q36_c, q36_f, q36_m, q36_a, q36_V, q36_M1, q36_M2, q36_D, rfl, h93, h94, h95, h96, h97, tp99⟩ := q82
    obtain ⟨t100, tp101⟩ : ∃ t9, M81.2.1 = t9 := ⟨_, rfl⟩
    rw [tp79, tp101] at tp99
    show pl _ _ _ (39, [(2, .ref t43), (1, .ref z0), (0, .ref o)], [.int 1], M81) _
    refine ps_if (S1 := (55, [(0, .ref o), (2, .ref t43)], [], M81)) (S2 := (42, [(2, .ref t43), (1, .ref z0), (0, .ref o)], [], M81)) rfl rfl rfl (fun c_39 => ?_) (fun c_39 => ?_)
    · exact absurd (of_decide_eq_true c_39) (by decide)
    refine ps_st (S' := (43, [(2, .ref t43), (1, .ref z0), (0, .ref o)], [.ref z0], M81)) rfl rfl rfl ?_
    refine ps_st (S' := (44, [(2, .ref t43), (1, .ref z0), (0, .ref o)], [.ref t43, .ref z0], M81)) rfl rfl rfl ?_
    have hb1 := mbs_of q36_f
    have hb2 := mbs_of q36_m
    have hc9 := s_class_in q36_c
    obtain ⟨ha8, ha9⟩ := s_atts_of q36_a
    have hu1 := by2_lt f pF86
    have hu2 := by2_lt f pM87
    refine pl_call (a := [.ref z0, .ref t43]) (rest := []) rfl rfl rfl (dk_holds (f := f) (n := n) (N := (by2 f 8)) (q := q84) (E := E83) (c := z0) (b := (z0 + 1)) (da := da) (vd := t43) (fr := m189) (mr := m290) (fa := p185) (ic := (by2 f (p185 + 6))) (mj := (by2 f 6)) (na := (by2 f pA88)) (pa := (pA88 + 2)) (e0 := n) (mi := (nI (by2 f 4))) (ru := 0) (wa := (-1)) (k1 := 0) (B1 := (mbs f n (by2 f pF86) (pF86 + 2))) (B2 := (mbs f n (by2 f pM87) (pM87 + 2))) (G1 := G191) (G2 := G292) (og := o) (ga := ca) (gf := g.1) (gn := cn) (gw := wp) (gk := kv) h93 h94 h95 h96 h97 (hn) (by2_lt _ _) (by omega) (by omega) (by2_lt _ _) (⟨by2_lt _ _, by omega⟩) (ha9) (by omega) (by omega) (hb1.2) (hb2.2) (q36_D) (by omega) (by omega) (by omega) (by omega) (by omega) (by omega) (q36_V) (q36_M1) (q36_M2)) (fun v102 M103 q104 => ?_)
    rcases q104 with q104 | q104
    · skip
      obtain ⟨q44_s, rfl, h105, h106, tp108⟩ := q104
      obtain ⟨t109, tp110⟩ : ∃ t9, M103.2.1 = t9 := ⟨_, rfl⟩
      rw [tp101, tp110] at tp108
      show pl _ _ _ (47, [(2, .ref t43), (1, .ref z0), (0, .ref o)], [.int 1], M103) _
      refine ps_if (S1 := (55, [(0, .ref o), (2, .ref t43)], [], M103)) (S2 := (50, [(2, .ref t43), (1, .ref z0), (0, .ref o)], [], M103)) rfl rfl rfl (fun c_47 => ?_) (fun c_47 => ?_)
      · exact absurd (of_decide_eq_true c_47) (by decide)
      refine ps_st (S' := (51, [(2, .ref t43), (1, .ref z0), (0, .ref o)], [.ref o], M103)) rfl rfl rfl ?_
      refine ps_st (S' := (52, [(2, .ref t43), (1, .ref z0), (0, .ref o)], [.ref z0, .ref o], M103)) rfl rfl rfl ?_
      refine ps_put (l' := [.ref ca, .int cn, .ref g.1, .ref z0, .int wp]) rfl h106 rfl rfl (fun M111 h112 f113 z114 => ?_)
      have h115 := (f113 t43 (show t43 ≠ o by omega)).trans h105
      have tp117 : M111.2.1 = t109 := by rw [z114]; exact tp110
      clear h105 h106 f113
      show pl _ _ _ (55, [(0, .ref o), (2, .ref t43)], [], M111) _
      refine ps_st (S' := (56, [(0, .ref o), (2, .ref t43)], [.ref o], M111)) rfl rfl rfl ?_
      refine ps_st (S' := (57, [(0, .ref o), (2, .ref t43)], [.ref t43, .ref o], M111)) rfl rfl rfl ?_
      refine ps_get (S' := (60, [(0, .ref o), (2, .ref t43)], [.int (-1), .ref o], M111)) rfl h115 rfl rfl ?_
      refine ps_put (l' := [.ref ca, .int cn, .ref g.1, .ref z0, .int (-1)]) rfl h112 rfl rfl (fun M118 h119 f120 z121 => ?_)
      have h122 := (f120 t43 (show t43 ≠ o by omega)).trans h115
      have tp124 : M118.2.1 = t109 := by rw [z121]; exact tp117
      clear h115 h112 f120
      show pl _ _ _ (63, [(0, .ref o), (2, .ref t43)], [], M118) _
      refine ps_st (S' := (64, [(0, .ref o), (2, .ref t43)], [.ref t43], M118)) rfl rfl rfl ?_
      refine ps_get (S' := (67, [(0, .ref o), (2, .ref t43)], [.int 0], M118)) rfl h122 rfl rfl ?_
      have hrd : s_read f n = none := s_read_2 q36_s q44_s
      exact ps_ret rfl rfl (⟨_, by rw [hrd]; rfl, by rw [hrd]; exact h119, by omega⟩)
    · skip
      obtain ⟨e9125, q44_s, rfl, h126, h127, tp129⟩ := q104
      obtain ⟨t130, tp131⟩ : ∃ t9, M103.2.1 = t9 := ⟨_, rfl⟩
      rw [tp101, tp131] at tp129
      show pl _ _ _ (47, [(2, .ref t43), (1, .ref z0), (0, .ref o)], [.int 0], M103) _
      refine ps_if (S1 := (55, [(0, .ref o), (2, .ref t43)], [], M103)) (S2 := (50, [(2, .ref t43), (1, .ref z0), (0, .ref o)], [], M103)) rfl rfl rfl (fun c_47 => ?_) (fun c_47 => ?_)
      rotate_left
      · exact absurd (by decide) (of_decide_eq_false c_47)
      refine ps_st (S' := (56, [(0, .ref o), (2, .ref t43)], [.ref o], M103)) rfl rfl rfl ?_
      refine ps_st (S' := (57, [(0, .ref o), (2, .ref t43)], [.ref t43, .ref o], M103)) rfl rfl rfl ?_
      refine ps_get (S' := (60, [(0, .ref o), (2, .ref t43)], [.int (nI e9125.2), .ref o], M103)) rfl h126 rfl rfl ?_
      refine ps_put (l' := [.ref ca, .int cn, .ref g.1, kv, .int (nI e9125.2)]) rfl h127 rfl rfl (fun M132 h133 f134 z135 => ?_)
      have h136 := (f134 t43 (show t43 ≠ o by omega)).trans h126
      have tp138 : M132.2.1 = t130 := by rw [z135]; exact tp131
      clear h126 h127 f134
      show pl _ _ _ (63, [(0, .ref o), (2, .ref t43)], [], M132) _
      refine ps_st (S' := (64, [(0, .ref o), (2, .ref t43)], [.ref t43], M132)) rfl rfl rfl ?_
      refine ps_get (S' := (67, [(0, .ref o), (2, .ref t43)], [.int (nI e9125.1)], M132)) rfl h136 rfl rfl ?_
      have hrd : s_read f n = some e9125 := s_read_2 q36_s q44_s
      exact ps_reti rfl (⟨_, by rw [hrd]; rfl, by rw [hrd]; exact h133, by omega⟩)
  · skip
    obtain ⟨e9139, q36_s, rfl, h140, h141, tp143⟩ := q82
    obtain ⟨t144, tp145⟩ : ∃ t9, M81.2.1 = t9 := ⟨_, rfl⟩
    rw [tp79, tp145] at tp143
    show pl _ _ _ (39, [(2, .ref t43), (1, .ref z0), (0, .ref o)], [.int 0], M81) _
    refine ps_if (S1 := (55, [(0, .ref o), (2, .ref t43)], [], M81)) (S2 := (42, [(2, .ref t43), (1, .ref z0), (0, .ref o)], [], M81)) rfl rfl rfl (fun c_39 => ?_) (fun c_39 => ?_)
    rotate_left
    · exact absurd (by decide) (of_decide_eq_false c_39)
    refine ps_st (S' := (56, [(0, .ref o), (2, .ref t43)], [.ref o], M81)) rfl rfl rfl ?_
    refine ps_st (S' := (57, [(0, .ref o), (2, .ref t43)], [.ref t43, .ref o], M81)) rfl rfl rfl ?_
    refine ps_get (S' := (60, [(0, .ref o), (2, .ref t43)], [.int (nI e9139.2), .ref o], M81)) rfl h140 rfl rfl ?_
    refine ps_put (l' := [.ref ca, .int cn, .ref g.1, kv, .int (nI e9139.2)]) rfl h141 rfl rfl (fun M146 h147 f148 z149 => ?_)
    have h150 := (f148 t43 (show t43 ≠ o by omega)).trans h140
    have tp152 : M146.2.1 = t144 := by rw [z149]; exact tp145
    clear h140 h141 f148
    show pl _ _ _ (63, [(0, .ref o), (2, .ref t43)], [], M146) _
    refine ps_st (S' := (64, [(0, .ref o), (2, .ref t43)], [.ref t43], M146)) rfl rfl rfl ?_
    refine ps_get (S' := (67, [(0, .ref o), (2, .ref t43)], [.int (nI e9139.1)], M146)) rfl h150 rfl rfl ?_
    have hrd : s_read f n = some e9139 := s_read_1 q36_s
    exact ps_reti rfl (⟨_, by rw [hrd]; rfl, by rw [hrd]; exact h147, by omega⟩)
