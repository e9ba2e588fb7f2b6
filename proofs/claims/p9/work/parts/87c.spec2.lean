/-! what a file must hold: the parts in their order (my own text) -/
section SPD
/-- the head: (rule, place), rule 0 where nothing is wrong -/
def s_head (f : Nat → Int32) (n : Nat) : Nat × Nat :=
  if n < 4 then (1, 0) else if ¬ by4 f 0 = 3405691582 then (2, 0) else if n < 6 then (1, 4) else if n < 8 then (1, 6) else
  if by2 f 6 < 45 ∨ 61 < by2 f 6 ∨ (56 ≤ by2 f 6 ∧ ¬ by2 f 4 = 0) then (3, 4) else (0, 0)
/-- c attributes from p on: where they end, or what is wrong -/
def s_atts (f : Nat → Int32) (n : Nat) : Nat → Nat → (Nat × Nat) ⊕ Nat
  | 0, p => .inr p
  | c + 1, p => if n < p + 2 then .inl (1, p) else if n < p + 6 then .inl (1, p + 2) else if n < p + 6 + by4 f (p + 2) then .inl (1, p + 6) else s_atts f n c (p + 6 + by4 f (p + 2))
def s_attributes (f : Nat → Int32) (n p : Nat) : (Nat × Nat) ⊕ Nat := if n < p + 2 then .inl (1, p) else s_atts f n (by2 f p) (p + 2)
def s_mems (f : Nat → Int32) (n : Nat) : Nat → Nat → (Nat × Nat) ⊕ Nat
  | 0, p => .inr p
  | c + 1, p => if n < p + 2 then .inl (1, p) else if n < p + 4 then .inl (1, p + 2) else if n < p + 6 then .inl (1, p + 4) else
    match s_attributes f n (p + 6) with
    | .inl e => .inl e
    | .inr p' => s_mems f n c p'
/-- c items of two bytes -/
def s_two (n : Nat) : Nat → Nat → (Nat × Nat) ⊕ Nat
  | 0, p => .inr p
  | c + 1, p => if n < p + 2 then .inl (1, p) else s_two n c (p + 2)
def s_class (f : Nat → Int32) (n p : Nat) : (Nat × Nat) ⊕ Nat := if n < p + 2 then .inl (1, p) else if n < p + 4 then .inl (1, p + 2) else if n < p + 6 then .inl (1, p + 4) else if n < p + 8 then .inl (1, p + 6) else s_two n (by2 f (p + 6)) (p + 8)
theorem s_atts_le {f : Nat → Int32} {n : Nat} : ∀ {c p p' : Nat}, p ≤ n → s_atts f n c p = .inr p' → p ≤ p' ∧ p' ≤ n := by
  intro c
  induction c with
  | zero => intro p p' hp h; cases h; omega
  | succ c ih =>
    intro p p' hp h
    unfold s_atts at h
    split at h
    · cases h
    · split at h
      · cases h
      · split at h
        · cases h
        · have := ih (by omega) h
          omega
theorem s_attributes_le {f : Nat → Int32} {n p p' : Nat} (h : s_attributes f n p = .inr p') : p ≤ p' ∧ p' ≤ n := by
  unfold s_attributes at h
  split at h
  · cases h
  · have := s_atts_le (by omega) h
    omega
end SPD
def dst5 (q1 q2 q3 q4 q5 : Nat) : Prop := (q1 ≠ q2 ∧ q1 ≠ q3 ∧ q1 ≠ q4 ∧ q1 ≠ q5) ∧ (q2 ≠ q3 ∧ q2 ≠ q4 ∧ q2 ≠ q5) ∧ (q3 ≠ q4 ∧ q3 ≠ q5) ∧ q4 ≠ q5
theorem nar16n {c : Nat} (h : c < 65536) : (nI c).toUInt32.toUInt16.toUInt32.toInt32 = nI c := by
  apply Int32.toBitVec_inj.mp
  apply BitVec.eq_of_toNat_eq
  have e : (nI c).toUInt32.toNat = c % 2 ^ 32 := rfl
  have e2 : (nI c).toUInt32.toUInt16.toNat = c % 2 ^ 32 % 2 ^ 16 := by
    rw [UInt32.toNat_toUInt16, e]
  have e3 : (nI c).toUInt32.toUInt16.toUInt32.toNat = c % 2 ^ 32 % 2 ^ 16 := by
    rw [UInt16.toNat_toUInt32, e2]
  have e4 : (nI c).toUInt32.toUInt16.toUInt32.toInt32.toBitVec.toNat = (nI c).toUInt32.toUInt16.toUInt32.toNat := rfl
  rw [e4, e3]
  show c % 2 ^ 32 % 2 ^ 16 = c % 2 ^ 32
  omega
theorem nar_char {c : Nat} (h : c < 65536) : vp_nar .char (nI c) = nI c := nar16n h
theorem i2c_nI {c : Nat} (h : c < 65536) : (Int32.toUInt32 (nI c) % 65536).toInt32 = nI c := by
  apply Int32.toBitVec_inj.mp
  apply BitVec.eq_of_toNat_eq
  have e : (nI c).toUInt32.toNat = c % 2 ^ 32 := rfl
  have e4 : (Int32.toUInt32 (nI c) % 65536).toInt32.toBitVec.toNat = (Int32.toUInt32 (nI c) % 65536).toNat := rfl
  rw [e4, UInt32.toNat_mod, e]
  show c % 2 ^ 32 % 65536 = c % 2 ^ 32
  omega
/-- a byte that goes on with a character -/
def go8 (f : Nat → Int32) (e q : Nat) : Prop := q < e ∧ f q &&& 192 = 128
theorem goesOn_nI {f : Nat → Int32} {n e q : Nat} (hn : n ≤ 65540) (he : e ≤ n) (hq : q < 1000000) : (go8 f e q ∧ sp_goesOn n f (nI q) (nI e) = 1) ∨ (¬ go8 f e q ∧ sp_goesOn n f (nI q) (nI e) = 0) := by
  unfold sp_goesOn go8
  rw [if_neg (nI_n0 (by omega))]
  by_cases h1 : q < e
  · rw [if_neg (fun h => absurd ((le_nI (by omega) (by omega)).mp h) (by omega)), if_neg (fun h => absurd ((le_nI (by omega) (by omega)).mp h) (by omega)), nI_toNat (by omega)]
    by_cases h2 : f q &&& 192 = 128
    · exact Or.inl ⟨⟨h1, h2⟩, by rw [if_neg (fun h => h h2)]⟩
    · exact Or.inr ⟨fun h => h2 h.2, by rw [if_pos h2]⟩
  · exact Or.inr ⟨fun h => h1 h.1, by rw [if_pos ((le_nI (by omega) (by omega)).mpr (by omega))]⟩
/-- how many bytes the character at p has, of a text that ends at e; 0: none -/
def u8k (f : Nat → Int32) (e p : Nat) : Nat :=
  if by1 f p < 128 then (if by1 f p = 0 then 0 else 1) else if by1 f p < 192 then 0 else if 240 ≤ by1 f p then 0 else if ¬ (p + 1 < e ∧ f (p + 1) &&& 192 = 128) then 0 else if by1 f p < 224 then 2 else if p + 2 < e ∧ f (p + 2) &&& 192 = 128 then 3 else 0
theorem u8k_le {f : Nat → Int32} {e p : Nat} (h : p < e) : u8k f e p ≤ 3 ∧ p + u8k f e p ≤ e := by
  unfold u8k
  split
  · split <;> omega
  · split
    · omega
    · split
      · omega
      · split
        · omega
        · rename_i h4
          have h4 := Decidable.not_not.mp h4
          split
          · omega
          · split
            · rename_i h6
              omega
            · omega
/-- the character of k bytes at p -/
def u8c (f : Nat → Int32) (p k : Nat) : Int32 :=
  if k = 1 then nI (by1 f p) else if k = 2 then (nI (by1 f p) &&& 31) <<< (6 &&& 31) ||| (nI (by1 f (p + 1)) &&& 63) else (nI (by1 f p) &&& 15) <<< (12 &&& 31) ||| (nI (by1 f (p + 1)) &&& 63) <<< (6 &&& 31) ||| (nI (by1 f (p + 2)) &&& 63)
theorem u8c_nat (f : Nat → Int32) (p k : Nat) : ∃ c, c < 65536 ∧ u8c f p k = nI c := by
  unfold u8c
  have h0 := by1_lt f p
  split
  · exact ⟨by1 f p, by omega, rfl⟩
  · split
    · obtain ⟨a, ha, e1⟩ := pk_andE (nI (by1 f p)) (m := 31) 5 (by decide)
      obtain ⟨b, hb, e2⟩ := pk_andE (nI (by1 f (p + 1))) (m := 63) 6 (by decide)
      refine ⟨a * 2 ^ 6 + b, by omega, ?_⟩
      rw [e1, e2]
      exact nI_cat (s := 6) (by decide) (by omega) hb
    · obtain ⟨a, ha, e1⟩ := pk_andE (nI (by1 f p)) (m := 15) 4 (by decide)
      obtain ⟨b, hb, e2⟩ := pk_andE (nI (by1 f (p + 1))) (m := 63) 6 (by decide)
      obtain ⟨c, hc, e3⟩ := pk_andE (nI (by1 f (p + 2))) (m := 63) 6 (by decide)
      refine ⟨(a * 2 ^ 6 + b) * 2 ^ 6 + c, by omega, ?_⟩
      rw [e1, e2, e3]
      have h1 : nI a <<< (12 &&& 31 : Int32) ||| nI b <<< (6 &&& 31 : Int32) = nI ((a * 2 ^ 6 + b) * 2 ^ 6) := by
        have e6 : nI b <<< (6 &&& 31 : Int32) = nI (b * 2 ^ 6) := nI_shl (s := 6) (by decide) (by omega)
        rw [e6]
        have := nI_cat (x := a) (y := b * 2 ^ 6) (s := 12) (by decide) (by omega) (by omega)
        rw [show (a * 2 ^ 6 + b) * 2 ^ 6 = a * 2 ^ 12 + b * 2 ^ 6 by omega]
        exact this
      have h2 := nI_cat (x := a * 2 ^ 6 + b) (y := c) (s := 6) (by decide) (by omega) hc
      rw [nI_shl (s := 6) (by decide) (by omega)] at h2
      show nI a <<< (12 &&& 31 : Int32) ||| nI b <<< (6 &&& 31 : Int32) ||| nI c = _
      rw [h1]
      exact h2
def u8n (f : Nat → Int32) (p k : Nat) : Nat := (u8c f p k).toInt.toNat
theorem u8n_eq (f : Nat → Int32) (p k : Nat) : u8c f p k = nI (u8n f p k) ∧ u8n f p k < 65536 := by
  obtain ⟨c, hc, e⟩ := u8c_nat f p k
  unfold u8n
  rw [e, nI_val (by omega)]
  exact ⟨by congr 1, by omega⟩
/-- a text from p to e: its characters, or the place where it is wrong (r: no fewer than its bytes) -/
def s_text (f : Nat → Int32) (e : Nat) : Nat → Nat → List Nat → Nat ⊕ List Nat
  | 0, _, l => .inr l
  | r + 1, p, l => if e ≤ p then .inr l else if u8k f e p = 0 then .inl p else s_text f e r (p + u8k f e p) (l ++ [u8n f p (u8k f e p)])
theorem s_text_0 {f : Nat → Int32} {e r p : Nat} {l : List Nat} (h : e ≤ p) : s_text f e r p l = .inr l := by
  cases r with
  | zero => rfl
  | succ r => unfold s_text; rw [if_pos h]
theorem s_text_fuel {f : Nat → Int32} {e : Nat} : ∀ {r r' p : Nat} {l : List Nat}, e - p ≤ r → e - p ≤ r' → s_text f e r p l = s_text f e r' p l := by
  intro r
  induction r with
  | zero =>
    intro r' p l h h'
    rw [s_text_0 (show e ≤ p by omega), s_text_0 (show e ≤ p by omega)]
  | succ r ih =>
    intro r' p l h h'
    by_cases h1 : e ≤ p
    · rw [s_text_0 h1, s_text_0 h1]
    · cases r' with
      | zero => omega
      | succ r' =>
        unfold s_text
        rw [if_neg h1, if_neg h1]
        split
        · rfl
        · rename_i h2
          exact ih (by omega) (by omega)
theorem s_text_step {f : Nat → Int32} {e p : Nat} {l : List Nat} (h : p < e) (hk : ¬ u8k f e p = 0) : s_text f e (e - p) p l = s_text f e (e - (p + u8k f e p)) (p + u8k f e p) (l ++ [u8n f p (u8k f e p)]) := by
  have h2 := u8k_le (f := f) h
  rw [show e - p = (e - p - 1) + 1 by omega]
  conv => lhs; unfold s_text
  rw [if_neg (by omega), if_neg hk]
  exact s_text_fuel (by omega) (by omega)
theorem s_text_bad {f : Nat → Int32} {e p : Nat} {l : List Nat} (h : p < e) (hk : u8k f e p = 0) : s_text f e (e - p) p l = .inl p := by
  rw [show e - p = (e - p - 1) + 1 by omega]
  unfold s_text
  rw [if_neg (by omega), if_pos hk]
/-- numbers written from c on -/
def wr (F : Nat → Int32) (c : Nat) (l : List Nat) : Nat → Int32 := fun j => if c ≤ j ∧ j < c + l.length then nI (l.getD (j - c) 0) else F j
theorem wr_nil {F : Nat → Int32} {c : Nat} : wr F c [] = F := by
  funext j
  unfold wr
  rw [if_neg (fun h => by have h1 := h.1; have h2 := h.2; simp only [List.length_nil] at h2; omega)]
theorem wr_snoc {F : Nat → Int32} {c x : Nat} {l : List Nat} : upd (wr F c l) (c + l.length) (nI x) = wr F c (l ++ [x]) := by
  funext j
  unfold upd wr
  by_cases h : j = c + l.length
  · subst h
    rw [if_pos rfl, if_pos (by simp), Nat.add_sub_cancel_left]
    simp
  · rw [if_neg h]
    by_cases h1 : c ≤ j ∧ j < c + l.length
    · rw [if_pos h1, if_pos (by simp; omega)]
      congr 1
      simp only [List.getD_eq_getElem?_getD]
      rw [List.getElem?_append_left (by omega)]
    · rw [if_neg h1, if_neg (by simp; omega)]
def s_utf (f : Nat → Int32) (n p : Nat) : (Nat × Nat) ⊕ List Nat :=
  if n < p + 2 then .inl (1, p) else if n < p + 2 + by2 f p then .inl (1, p + 2) else
  match s_text f (p + 2 + by2 f p) (by2 f p) (p + 2) [] with
  | .inl w => .inl (6, w)
  | .inr l => .inr l
theorem s_utf_ok {f : Nat → Int32} {n p : Nat} {l : List Nat} (h0 : ¬ n < p + 2) (h1 : ¬ n < p + 2 + by2 f p) (h : s_text f (p + 2 + by2 f p) (by2 f p) (p + 2) [] = .inr l) : s_utf f n p = .inr l := by
  unfold s_utf
  rw [if_neg h0, if_neg h1, h]
theorem s_utf_bad {f : Nat → Int32} {n p w : Nat} (h0 : ¬ n < p + 2) (h1 : ¬ n < p + 2 + by2 f p) (h : s_text f (p + 2 + by2 f p) (by2 f p) (p + 2) [] = .inl w) : s_utf f n p = .inl (6, w) := by
  unfold s_utf
  rw [if_neg h0, if_neg h1, h]
theorem sw_nat {ps : List (Int × Nat)} {dt y t : Nat} (ht : t < 1073741824) (h : mi_sw ps dt (nI t) = y) : (((t : Int), y) ∈ ps) ∨ (y = dt ∧ ∀ q ∈ ps, ¬ q.1 = (t : Int)) := by
  unfold mi_sw at h
  rw [nI_val ht] at h
  split at h
  · rename_i q hq
    have h1 := List.find?_some hq
    have h2 := List.mem_of_find?_eq_some hq
    have h3 : q.1 = (t : Int) := by simpa using h1
    subst h
    exact Or.inl (by rw [← h3]; exact h2)
  · rename_i hq
    refine Or.inr ⟨h.symm, fun q hm e => ?_⟩
    have := List.find?_eq_none.mp hq q hm
    simp [e] at this
/-- the tags of a version -/
abbrev tgOk (mj t : Nat) : Prop := (t = 15 ∨ t = 16 ∨ t = 18) ∧ 51 ≤ mj ∨ (t = 19 ∨ t = 20) ∧ 53 ≤ mj ∨ t = 17 ∧ 55 ≤ mj ∨ t = 1 ∨ (3 ≤ t ∧ t ≤ 12)
/-- an entry of one index -/
def oneIx (t : Nat) : Prop := t = 7 ∨ t = 8 ∨ t = 16 ∨ t = 19 ∨ t = 20
/-- the indexes of an entry with tag t, from p on: where it ends, its two numbers -/
def s_ix (f : Nat → Int32) (n t p : Nat) : (Nat × Nat) ⊕ (Nat × Nat × Nat) :=
  if t = 15 then (if n < p + 1 then .inl (1, p) else if n < p + 3 then .inl (1, p + 1) else .inr (p + 3, by1 f p, by2 f (p + 1))) else
  if n < p + 2 then .inl (1, p) else if t = 7 ∨ t = 8 ∨ t = 16 ∨ t = 19 ∨ t = 20 then .inr (p + 2, by2 f p, 0) else
  if n < p + 4 then .inl (1, p + 2) else .inr (p + 4, by2 f p, by2 f (p + 2))
/-- an entry with number k at p: where it ends; a text tells its characters, an entry of indexes its numbers -/
def s_entry (f : Nat → Int32) (n mj N k p : Nat) : (Nat × Nat) ⊕ (Nat × ((List Nat) ⊕ (Option (Nat × Nat)))) :=
  if n < p + 1 then .inl (1, p) else if ¬ tgOk mj (by1 f p) then .inl (5, p) else if (by1 f p = 5 ∨ by1 f p = 6) ∧ N ≤ k + 1 then .inl (7, p) else
  if by1 f p = 1 then (match s_utf f n (p + 1) with | .inl e => .inl e | .inr l => .inr (p + 3 + by2 f (p + 1), .inl l)) else
  if by1 f p = 3 ∨ by1 f p = 4 then (if n < p + 5 then .inl (1, p + 1) else .inr (p + 5, .inr none)) else
  if by1 f p = 5 ∨ by1 f p = 6 then (if n < p + 5 then .inl (1, p + 1) else if n < p + 9 then .inl (1, p + 5) else .inr (p + 9, .inr none)) else
  match s_ix f n (by1 f p) (p + 1) with
  | .inl e => .inl e
  | .inr (p', x, y) => .inr (p', .inr (some (x, y)))
/-- entries from number k at p on (r: no fewer than are left): where they end, and each with its place -/
def s_ents (f : Nat → Int32) (n mj N : Nat) : Nat → Nat → Nat → List (Nat × Nat) → (Nat × Nat) ⊕ (Nat × List (Nat × Nat))
  | 0, _, p, E => .inr (p, E)
  | r + 1, k, p, E => if N ≤ k then .inr (p, E) else
    match s_entry f n mj N k p with
    | .inl e => .inl e
    | .inr (p', _) => s_ents f n mj N r (if by1 f p = 5 ∨ by1 f p = 6 then k + 2 else k + 1) p' (E ++ [(k, p)])
theorem s_ents_0 {f : Nat → Int32} {n mj N r k p : Nat} {E : List (Nat × Nat)} (h : N ≤ k) : s_ents f n mj N r k p E = .inr (p, E) := by
  cases r with
  | zero => rfl
  | succ r => unfold s_ents; rw [if_pos h]
theorem s_ents_fuel {f : Nat → Int32} {n mj N : Nat} : ∀ {r r' k p : Nat} {E : List (Nat × Nat)}, N - k ≤ r → N - k ≤ r' → s_ents f n mj N r k p E = s_ents f n mj N r' k p E := by
  intro r
  induction r with
  | zero => intro r' k p E h h'; rw [s_ents_0 (show N ≤ k by omega), s_ents_0 (show N ≤ k by omega)]
  | succ r ih =>
    intro r' k p E h h'
    by_cases h1 : N ≤ k
    · rw [s_ents_0 h1, s_ents_0 h1]
    · cases r' with
      | zero => omega
      | succ r' =>
        unfold s_ents
        rw [if_neg h1, if_neg h1]
        cases s_entry f n mj N k p with
        | inl e => rfl
        | inr x =>
          dsimp only
          exact ih (by split <;> omega) (by split <;> omega)
theorem s_ents_step {f : Nat → Int32} {n mj N k p p' : Nat} {x : (List Nat) ⊕ (Option (Nat × Nat))} {E : List (Nat × Nat)} (h : k < N) (he : s_entry f n mj N k p = .inr (p', x)) : s_ents f n mj N (N - k) k p E = s_ents f n mj N (N - (if by1 f p = 5 ∨ by1 f p = 6 then k + 2 else k + 1)) (if by1 f p = 5 ∨ by1 f p = 6 then k + 2 else k + 1) p' (E ++ [(k, p)]) := by
  rw [show N - k = (N - k - 1) + 1 by omega]
  conv => lhs; unfold s_ents
  rw [if_neg (by omega), he]
  exact s_ents_fuel (by split <;> omega) (by split <;> omega)
theorem s_ents_bad {f : Nat → Int32} {n mj N k p : Nat} {e : Nat × Nat} {E : List (Nat × Nat)} (h : k < N) (he : s_entry f n mj N k p = .inl e) : s_ents f n mj N (N - k) k p E = .inl e := by
  rw [show N - k = (N - k - 1) + 1 by omega]
  unfold s_ents
  rw [if_neg (by omega), he]
/-- what the class's pool keeps of an entry -/
def entC (f : Nat → Int32) (n : Nat) (F1 F2 F3 F4 F6 : Nat → Int32) (cc k p : Nat) : Prop :=
  F1 k = nI (by1 f p) ∧ F2 k = nI p ∧ (by1 f p = 1 → ∃ (l : List Nat) (c : Nat), s_utf f n (p + 1) = .inr l ∧ F3 k = nI c ∧ F4 k = nI l.length ∧ c + l.length ≤ cc ∧ ∀ i, i < l.length → F6 (c + i) = nI (l.getD i 0)) ∧
  (7 ≤ by1 f p → ∃ p' x y, s_ix f n (by1 f p) (p + 1) = .inr (p', x, y) ∧ F3 k = nI x ∧ F4 k = nI y)
def poolC (f : Nat → Int32) (n : Nat) (F1 F2 F3 F4 F6 : Nat → Int32) (cc k : Nat) (E : List (Nat × Nat)) : Prop :=
  (∀ q ∈ E, q.1 < k ∧ entC f n F1 F2 F3 F4 F6 cc q.1 q.2) ∧ ∀ j, (∀ q ∈ E, ¬ q.1 = j) → F1 j = 0
theorem updq_ne {F : Nat → Int32} {k j : Nat} {x : Int32} (h : ¬ j = k) : upd F k x j = F j := by simp [upd, h]
theorem updq_at {F : Nat → Int32} {k : Nat} {x : Int32} : upd F k x k = x := by simp [upd]
theorem wr_lo {F : Nat → Int32} {c j : Nat} {l : List Nat} (h : j < c) : wr F c l j = F j := by
  unfold wr
  rw [if_neg (by omega)]
theorem wr_in {F : Nat → Int32} {c i : Nat} {l : List Nat} (h : i < l.length) : wr F c l (c + i) = nI (l.getD i 0) := by
  unfold wr
  rw [if_pos (by omega), Nat.add_sub_cancel_left]
theorem poolC.add {f : Nat → Int32} {n : Nat} {F1 F2 F3 F4 F6 G3 G4 G6 : Nat → Int32} {cc cc' k k' p : Nat} {E : List (Nat × Nat)} (h : poolC f n F1 F2 F3 F4 F6 cc k E) (hk : k < k') (hc : cc ≤ cc')
    (h3 : ∀ j, ¬ j = k → G3 j = F3 j) (h4 : ∀ j, ¬ j = k → G4 j = F4 j) (h6 : ∀ j, j < cc → G6 j = F6 j) (hn : entC f n (upd F1 k (nI (by1 f p))) (upd F2 k (nI p)) G3 G4 G6 cc' k p) :
    poolC f n (upd F1 k (nI (by1 f p))) (upd F2 k (nI p)) G3 G4 G6 cc' k' (E ++ [(k, p)]) := by
  refine ⟨fun q hq => ?_, fun j hj => ?_⟩
  · rcases List.mem_append.mp hq with hq | hq
    · obtain ⟨a0, a1, a2, a3, a4⟩ := h.1 q hq
      have ne : ¬ q.1 = k := by omega
      refine ⟨by omega, by rw [updq_ne ne]; exact a1, by rw [updq_ne ne]; exact a2, fun ht => ?_, fun ht => ?_⟩
      · obtain ⟨l, c, b1, b2, b3, b4, b5⟩ := a3 ht
        exact ⟨l, c, b1, by rw [h3 _ ne]; exact b2, by rw [h4 _ ne]; exact b3, by omega, fun i hi => by rw [h6 _ (by omega)]; exact b5 i hi⟩
      · obtain ⟨p', x, y, b1, b2, b3⟩ := a4 ht
        exact ⟨p', x, y, b1, by rw [h3 _ ne]; exact b2, by rw [h4 _ ne]; exact b3⟩
    · have : q = (k, p) := by simpa using hq
      subst this
      exact ⟨hk, hn⟩
  · have h1 : ¬ k = j := hj (k, p) (by simp)
    rw [updq_ne (fun e => h1 e.symm)]
    exact h.2 j (fun q hq => hj q (List.mem_append_left _ hq))
def hldC (f : Nat → Int32) (n : Nat) : Nat := min (by2 f 8) (n / 3 + 1)
/-- the pool, from place 8 on -/
def s_pool (f : Nat → Int32) (n mj : Nat) : (Nat × Nat) ⊕ (Nat × List (Nat × Nat)) := if n < 10 then .inl (1, 8) else if by2 f 8 = 0 then .inl (4, 8) else s_ents f n mj (by2 f 8) (by2 f 8 - 1) 1 10 []
theorem s_entry_txt {f : Nat → Int32} {n mj N k p p' : Nat} {l : List Nat} (h : s_entry f n mj N k p = .inr (p', .inl l)) : by1 f p = 1 ∧ s_utf f n (p + 1) = .inr l ∧ p' = p + 3 + by2 f (p + 1) := by
  unfold s_entry at h
  split at h
  · cases h
  · split at h
    · cases h
    · split at h
      · cases h
      · split at h
        · rename_i h1
          split at h
          · cases h
          · rename_i l' h2
            cases h
            exact ⟨h1, h2, rfl⟩
        · split at h
          · split at h <;> cases h
          · split at h
            · split at h
              · cases h
              · split at h <;> cases h
            · split at h <;> cases h
theorem s_entry_pl {f : Nat → Int32} {n mj N k p p' : Nat} (h : s_entry f n mj N k p = .inr (p', .inr none)) : (by1 f p = 3 ∨ by1 f p = 4) ∧ p' = p + 5 ∨ (by1 f p = 5 ∨ by1 f p = 6) ∧ p' = p + 9 ∧ k + 1 < N := by
  unfold s_entry at h
  split at h
  · cases h
  · split at h
    · cases h
    · split at h
      · cases h
      · rename_i h7
        split at h
        · split at h <;> cases h
        · split at h
          · rename_i h1
            split at h
            · cases h
            · cases h
              exact Or.inl ⟨h1, rfl⟩
          · split at h
            · rename_i h1
              split at h
              · cases h
              · split at h
                · cases h
                · cases h
                  exact Or.inr ⟨h1, rfl, by omega⟩
            · split at h <;> cases h
theorem s_entry_ix {f : Nat → Int32} {n mj N k p p' x y : Nat} (h : s_entry f n mj N k p = .inr (p', .inr (some (x, y)))) : s_ix f n (by1 f p) (p + 1) = .inr (p', x, y) ∧ 7 ≤ by1 f p := by
  unfold s_entry at h
  split at h
  · cases h
  · split at h
    · cases h
    · rename_i h0
      have h0 := Decidable.not_not.mp h0
      split at h
      · cases h
      · split at h
        · split at h <;> cases h
        · split at h
          · split at h <;> cases h
          · split at h
            · split at h
              · cases h
              · split at h <;> cases h
            · split at h
              · cases h
              · rename_i p2 x2 y2 h2
                cases h
                exact ⟨h2, by unfold tgOk at h0; omega⟩
