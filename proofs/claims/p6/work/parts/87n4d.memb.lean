section
/-! what members tell (my own text) -/
section MUA
variable (f : Nat → Int32) (n : Nat) (E : List (Nat × Nat))
def stF (x k p : Nat) (K : Nat × Nat) : Nat × Nat := (if k = 0 then K.1 else K.1 + 1, if ¬ k = 0 ∧ ¬ hasN x 8 = 0 then by2 f (p + 6) else K.2)
/-- what a field's attributes tell: how many are known, the constant -/
def faU (x : Nat) : Nat → Nat → Nat × Nat → Nat × Nat
  | 0, _, K => K
  | r + 1, p, K => faU x r (p + 6 + by4 f (p + 2)) (stF f x (fkN f n E (by2 f p)) p K)
def stM (k p : Nat) (K : Nat × Nat × Nat) : Nat × Nat × Nat := (if k = 0 then K.1 else K.1 + 1, if k = 2 then p else K.2.1, if k = 3 then by2 f (p + 6) else K.2.2)
/-- what a method's attributes tell: how many are known, where its code is (0: nowhere), how many exceptions -/
def maU : Nat → Nat → Nat × Nat × Nat → Nat × Nat × Nat
  | 0, _, K => K
  | r + 1, p, K => maU r (p + 6 + by4 f (p + 2)) (stM f (mkN f n E (by2 f p)) p K)
def fK (b : Nat) : Nat × Nat := faU f n E (by2 f b) (by2 f (b + 6)) (b + 8) (0, 0)
def mK (b : Nat) : Nat × Nat × Nat := maU f n E (by2 f (b + 6)) (b + 8) (0, 0, 0)
end MUA
section MUB
variable {f : Nat → Int32} {n : Nat} {E : List (Nat × Nat)} {mj : Nat}
theorem faU_st {x c i p : Nat} {K : Nat × Nat} (h : i < c) : faU f n E x (c - i) p K = faU f n E x (c - (i + 1)) (p + 6 + by4 f (p + 2)) (stF f x (fkN f n E (by2 f p)) p K) := by
  rw [show c - i = (c - (i + 1)) + 1 by omega]
  rfl
theorem maU_st {c i p : Nat} {K : Nat × Nat × Nat} (h : i < c) : maU f n E (c - i) p K = maU f n E (c - (i + 1)) (p + 6 + by4 f (p + 2)) (stM f (mkN f n E (by2 f p)) p K) := by
  rw [show c - i = (c - (i + 1)) + 1 by omega]
  rfl
theorem stF_0 {x p : Nat} {K : Nat × Nat} : stF f x 0 p K = K := by
  unfold stF
  rw [if_pos rfl, if_neg (fun h => h.1 rfl)]
theorem stF_n {x p : Nat} {K : Nat × Nat} (h : hasN x 8 = 0) : stF f x 1 p K = (K.1 + 1, K.2) := by
  unfold stF
  rw [if_neg (by decide), if_neg (fun h9 => h9.2 h)]
theorem stF_s {x p : Nat} {K : Nat × Nat} (h : ¬ hasN x 8 = 0) : stF f x 1 p K = (K.1 + 1, by2 f (p + 6)) := by
  unfold stF
  rw [if_neg (by decide), if_pos ⟨by decide, h⟩]
theorem stM_0 {p : Nat} {K : Nat × Nat × Nat} : stM f 0 p K = K := by
  unfold stM
  rw [if_pos rfl, if_neg (by decide), if_neg (by decide)]
theorem stM_2 {p : Nat} {K : Nat × Nat × Nat} : stM f 2 p K = (K.1 + 1, p, K.2.2) := by
  unfold stM
  rw [if_neg (by decide), if_pos rfl, if_neg (by decide)]
theorem stM_3 {p : Nat} {K : Nat × Nat × Nat} : stM f 3 p K = (K.1 + 1, K.2.1, by2 f (p + 6)) := by
  unfold stM
  rw [if_neg (by decide), if_neg (by decide), if_pos rfl]
theorem mk_3 (f : Nat → Int32) (n : Nat) (E : List (Nat × Nat)) (x : Nat) : mkN f n E x = 0 ∨ mkN f n E x = 2 ∨ mkN f n E x = 3 := by
  unfold mkN
  repeat' split
  all_goals omega
theorem ca_bits {r p s s1 : Nat} (h : caS f n E mj r p s = .inr s1) (j : Nat) (hj : ¬ j = 4) : sb s1 j = sb s j := by
  obtain ⟨s', h1, h2⟩ := (caS_any (f := f) (n := n) (E := E) (mj := mj) (r := r) (p := p) (s := s) (s0 := s) rfl).2 s1 h
  rw [h] at h1
  cases h1
  exact h2 j hj
theorem cd_bits {w p s s1 : Nat} (h : cdS f n E mj w p s = .inr s1) (j : Nat) (hj : ¬ j = 4) : sb s1 j = sb s j := by
  unfold cdS at h
  split at h
  · cases h
  · split at h
    · cases h
    · split at h
      · cases h
      · exact ca_bits h j hj
theorem nw_two {s k p s' : Nat} (h : nwS f E s k p = .inr s') (hk : k = 0 ∨ k = 2 ∨ k = 3) : sb s' 2 + sb s' 3 = if k = 0 then sb s 2 + sb s 3 else sb s 2 + sb s 3 + 1 := by
  unfold nwS at h
  split at h
  · cases h
  · split at h
    · rename_i h1
      cases h
      rw [if_pos h1]
    · rename_i h1
      split at h
      · cases h
      · rename_i h2
        cases h
        have h3 := Decidable.not_not.mp h2
        rw [if_neg h1, sb_so, sb_so]
        rcases hk with hk | rfl | rfl
        · exact absurd hk h1
        · rw [h3, if_pos rfl, if_neg (by decide)]
          omega
        · rw [h3, if_neg (by decide), if_pos rfl]
theorem pop_12 : ∀ s, s < 2048 → popN (aN s 12) = sb s 2 + sb s 3 := by decide +kernel
end MUB
section MUC
variable {f : Nat → Int32} {n mj q b : Nat} {E : List (Nat × Nat)} {M M' : mi_H}
abbrev cdc (f : Nat → Int32) (mj q p z : Nat) (x8 : Int32) (v9 v10 : Value) : mi_C := ob 4 [.int (nI (by2 f (p + 6))), .int (nI (by2 f (p + 8))), .int (nI (by4 f (p + 10))), .int (nI (p + 14 + by4 f (p + 10) + 2)), .int (nI (by2 f (p + 14 + by4 f (p + 10)))), .ref q, .int (nI mj), .ref (z + 1), .int x8, v9, v10]
abbrev inc (f : Nat → Int32) (b p : Nat) (l : List Value) : mi_C := ob 5 (.ref b :: .int (nI (p + 14)) :: .int (nI (by4 f (p + 10))) :: l)
/-- code as it was made, from lo on: that of the attribute at p, or none -/
def CD0 (f : Nat → Int32) (mj q b p : Nat) (v : Value) (lo : Nat) (M : mi_H) : Prop := (p = 0 ∧ v = .null) ∨ (¬ p = 0 ∧ ∃ z : Nat, v = .ref z ∧ lo ≤ z ∧ z + 1 < M.2.1 ∧ M.1 z = some (cdc f mj q p z 0 .null .null) ∧ M.1 (z + 1) = some (inc f b p [.int 0, .int 0, .int 0, .int 0, .int 0, .int 0, .int 0, .int 0, .int 0]))
/-- cells that aren't of code -/
def nC (S : List Nat) (M : mi_H) : Prop := ∀ z ∈ S, ∃ ci l, M.1 z = some (ob ci l) ∧ ¬ ci = 4 ∧ ¬ ci = 5
theorem nCn : nC [] M := fun z hz => by cases hz
theorem nCc {S : List Nat} {z ci : Nat} {l : List Value} (h : M.1 z = some (ob ci l)) (hc : ¬ ci = 4 ∧ ¬ ci = 5) (hs : nC S M) : nC (z :: S) M := fun y hy => by
  rcases List.mem_cons.mp hy with rfl | hy
  · exact ⟨ci, l, h, hc⟩
  · exact hs y hy
theorem nC.out {S : List Nat} {z ci : Nat} {l : List Value} (hs : nC S M) (h : M.1 z = some (ob ci l)) (hc : ci = 4 ∨ ci = 5) : ¬ z ∈ S := fun hz => by
  obtain ⟨c2, l2, h1, h2⟩ := hs z hz
  rw [h] at h1
  simp only [ob, Option.some.injEq, Sum.inr.injEq, Prod.mk.injEq] at h1
  omega
theorem CD0.keep {p lo : Nat} {v : Value} {S : List Nat} (h : CD0 f mj q b p v lo M) (hf : gm S M M') (hs : nC S M) : CD0 f mj q b p v lo M' := by
  rcases h with h | ⟨h0, z, h1, h2, h3, h4, h5⟩
  · exact Or.inl h
  · exact Or.inr ⟨h0, z, h1, h2, Nat.lt_of_lt_of_le h3 hf.2, (hf.1 z (by omega) (hs.out h4 (Or.inl rfl))).trans h4, (hf.1 (z + 1) h3 (hs.out h5 (Or.inr rfl))).trans h5⟩
theorem CD0.put {p lo a ci : Nat} {v : Value} {l : List Value} (h : CD0 f mj q b p v lo M) (ha : M.1 a = some (ob ci l)) (hc : ¬ ci = 4 ∧ ¬ ci = 5) (hf : ∀ z, z ≠ a → M'.1 z = M.1 z) (hz : M'.2 = M.2) : CD0 f mj q b p v lo M' :=
  h.keep (S := [a]) ⟨fun z _ h9 => hf z (fun e => h9 (by rw [e]; exact List.mem_cons_self)), by rw [hz]; exact Nat.le_refl _⟩ (nCc ha hc nCn)
theorem CD0.lo {p lo lo' : Nat} {v : Value} (h : CD0 f mj q b p v lo M) (hl : lo' ≤ lo) : CD0 f mj q b p v lo' M := by
  rcases h with h | ⟨h0, z, h1, h2, h3⟩
  · exact Or.inl h
  · exact Or.inr ⟨h0, z, h1, by omega, h3⟩
theorem CD0.of {p z lo : Nat} (h0 : ¬ p = 0) (h1 : lo ≤ z) (h2 : z + 1 < M.2.1) (h3 : M.1 z = some (cdc f mj q p z 0 .null .null)) (h4 : M.1 (z + 1) = some (inc f b p [.int 0, .int 0, .int 0, .int 0, .int 0, .int 0, .int 0, .int 0, .int 0])) : CD0 f mj q b p (.ref z) lo M := Or.inr ⟨h0, z, rfl, h1, h2, h3, h4⟩
/-- fields that have been looked at -/
def DF (f : Nat → Int32) (n : Nat) (E : List (Nat × Nat)) (B : List Nat) (G : Nat → Nat) (k : Nat) (M : mi_H) : Prop := ∀ i, i < k → i < B.length → G i < M.2.1 ∧ M.1 (G i) = some (mcell f (B.getD i 0) (nI (fK f n E (B.getD i 0)).1) (nI (fK f n E (B.getD i 0)).2) 0 0 .null)
/-- methods that have been looked at; their code lies below T -/
def DM (f : Nat → Int32) (n : Nat) (E : List (Nat × Nat)) (mj q b : Nat) (B : List Nat) (G : Nat → Nat) (k T : Nat) (M : mi_H) : Prop := ∃ Z : Nat → Nat, (∀ i j, i < j → j < k → j < B.length → ¬ (mK f n E (B.getD i 0)).2.1 = 0 → ¬ (mK f n E (B.getD j 0)).2.1 = 0 → Z i + 1 < Z j) ∧ (∀ i, i < k → i < B.length → ¬ (mK f n E (B.getD i 0)).2.1 = 0 → Z i + 1 < T) ∧ ∀ i, i < k → i < B.length → G i < M.2.1 ∧ ∃ v, M.1 (G i) = some (mcell f (B.getD i 0) (nI (mK f n E (B.getD i 0)).1) 0 (nI (apN f n E (B.getD i 0))) (nI (mK f n E (B.getD i 0)).2.2) v) ∧ CD0 f mj q b (mK f n E (B.getD i 0)).2.1 v 0 M ∧ (¬ (mK f n E (B.getD i 0)).2.1 = 0 → v = .ref (Z i))
/-- cells that are neither of code nor members looked at -/
def nD (k : Nat) (B : List Nat) (G : Nat → Nat) (S : List Nat) (M : mi_H) : Prop := ∀ z ∈ S, ∃ ci l, M.1 z = some (ob ci l) ∧ ¬ ci = 4 ∧ ¬ ci = 5 ∧ (ci = 6 → ∀ i, i < k → i < B.length → ¬ G i = z)
theorem nDn {k : Nat} {B : List Nat} {G : Nat → Nat} : nD k B G [] M := fun z hz => by cases hz
theorem nDc {k : Nat} {B : List Nat} {G : Nat → Nat} {S : List Nat} {z ci : Nat} {l : List Value} (h : M.1 z = some (ob ci l)) (hc : ¬ ci = 4 ∧ ¬ ci = 5 ∧ ¬ ci = 6) (hs : nD k B G S M) : nD k B G (z :: S) M := fun y hy => by
  rcases List.mem_cons.mp hy with rfl | hy
  · exact ⟨ci, l, h, hc.1, hc.2.1, fun e => absurd e hc.2.2⟩
  · exact hs y hy
theorem nDa {k : Nat} {B : List Nat} {G : Nat → Nat} {S : List Nat} {z : Nat} {l : List Value} (h : M.1 z = some (ob 6 l)) (ha : ∀ i, i < k → i < B.length → ¬ G i = z) (hs : nD k B G S M) : nD k B G (z :: S) M := fun y hy => by
  rcases List.mem_cons.mp hy with rfl | hy
  · exact ⟨6, l, h, by decide, by decide, fun _ => ha⟩
  · exact hs y hy
theorem nD.C {k : Nat} {B : List Nat} {G : Nat → Nat} {S : List Nat} (h : nD k B G S M) : nC S M := fun z hz => by
  obtain ⟨ci, l, h1, h2, h3, -⟩ := h z hz
  exact ⟨ci, l, h1, h2, h3⟩
theorem nD.out {k i : Nat} {B : List Nat} {G : Nat → Nat} {S : List Nat} {l : List Value} (h : nD k B G S M) (hi : i < k) (hb : i < B.length) (hc : M.1 (G i) = some (ob 6 l)) : ¬ G i ∈ S := fun hz => by
  obtain ⟨ci, l2, h1, -, -, h2⟩ := h _ hz
  rw [hc] at h1
  simp only [ob, Option.some.injEq, Sum.inr.injEq, Prod.mk.injEq] at h1
  exact h2 h1.1.symm i hi hb rfl
theorem DF.keep {B : List Nat} {G : Nat → Nat} {k : Nat} {S : List Nat} (h : DF f n E B G k M) (hf : gm S M M') (hs : nD k B G S M) : DF f n E B G k M' := fun i hi hb => by
  obtain ⟨h1, h2⟩ := h i hi hb
  exact ⟨Nat.lt_of_lt_of_le h1 hf.2, (hf.1 _ h1 (hs.out hi hb h2)).trans h2⟩
theorem DM.keep {B : List Nat} {G : Nat → Nat} {k T : Nat} {S : List Nat} (h : DM f n E mj q b B G k T M) (hf : gm S M M') (hs : nD k B G S M) : DM f n E mj q b B G k T M' := by
  obtain ⟨Z, h0, h9, h⟩ := h
  refine ⟨Z, h0, h9, fun i hi hb => ?_⟩
  obtain ⟨h1, v, h2, h3, h4⟩ := h i hi hb
  exact ⟨Nat.lt_of_lt_of_le h1 hf.2, v, (hf.1 _ h1 (hs.out hi hb h2)).trans h2, h3.keep hf hs.C, h4⟩
theorem DF.nil {B : List Nat} {G : Nat → Nat} : DF f n E B G 0 M := fun i hi => absurd hi (Nat.not_lt_zero i)
theorem DM.nil {B : List Nat} {G : Nat → Nat} {T : Nat} : DM f n E mj q b B G 0 T M := ⟨fun _ => 0, fun i j _ hj => absurd hj (Nat.not_lt_zero j), fun i hi => absurd hi (Nat.not_lt_zero i), fun i hi => absurd hi (Nat.not_lt_zero i)⟩
theorem DF.snoc {B : List Nat} {G : Nat → Nat} {k a : Nat} (h : DF f n E B G k M) (ha : G k = a) (hl : a < M.2.1) (hc : M.1 a = some (mcell f (B.getD k 0) (nI (fK f n E (B.getD k 0)).1) (nI (fK f n E (B.getD k 0)).2) 0 0 .null)) : DF f n E B G (k + 1) M := fun i hi hb => by
  by_cases e : i = k
  · subst e
    rw [ha]
    exact ⟨hl, hc⟩
  · exact h i (by omega) hb
theorem DM.snoc {B : List Nat} {G : Nat → Nat} {k a lo T T' : Nat} {v : Value} (h : DM f n E mj q b B G k T M) (ha : G k = a) (hl : a < M.2.1) (hc : M.1 a = some (mcell f (B.getD k 0) (nI (mK f n E (B.getD k 0)).1) 0 (nI (apN f n E (B.getD k 0))) (nI (mK f n E (B.getD k 0)).2.2) v)) (hd : CD0 f mj q b (mK f n E (B.getD k 0)).2.1 v lo M) (hT : T ≤ lo) (hTT : T ≤ T') (hT' : M.2.1 ≤ T') : DM f n E mj q b B G (k + 1) T' M := by
  obtain ⟨Z, h0, h9, h⟩ := h
  rcases hd with ⟨d0, d1⟩ | ⟨d0, z, d1, d2, d3, d4, d5⟩
  · refine ⟨Z, fun i j hij hj hb g1 g2 => ?_, fun i hi hb g => ?_, fun i hi hb => ?_⟩
    · by_cases e : j = k
      · subst e
        exact absurd d0 g2
      · exact h0 i j hij (by omega) hb g1 g2
    · by_cases e : i = k
      · subst e
        exact absurd d0 g
      · have := h9 i (by omega) hb g
        omega
    · by_cases e : i = k
      · subst e
        rw [ha]
        exact ⟨hl, v, hc, Or.inl ⟨d0, d1⟩, fun g => absurd d0 g⟩
      · exact h i (by omega) hb
  · refine ⟨fun i => if i = k then z else Z i, fun i j hij hj hb g1 g2 => ?_, fun i hi hb g => ?_, fun i hi hb => ?_⟩
    · dsimp only
      by_cases e : j = k
      · subst e
        rw [if_pos rfl, if_neg (by omega)]
        have := h9 i hij (by omega) g1
        omega
      · rw [if_neg e, if_neg (by omega)]
        exact h0 i j hij (by omega) hb g1 g2
    · dsimp only
      by_cases e : i = k
      · rw [if_pos e]
        omega
      · rw [if_neg e]
        have := h9 i (by omega) hb g
        omega
    · dsimp only
      by_cases e : i = k
      · subst e
        rw [ha]
        exact ⟨hl, v, hc, Or.inr ⟨d0, z, d1, Nat.zero_le _, d3, d4, d5⟩, fun _ => by rw [if_pos rfl]; exact d1⟩
      · rw [if_neg e]
        exact h i (by omega) hb
theorem DF.put {B : List Nat} {G : Nat → Nat} {k a ci : Nat} {l : List Value} (h : DF f n E B G k M) (ha : M.1 a = some (ob ci l)) (hc : ¬ ci = 4 ∧ ¬ ci = 5 ∧ ¬ ci = 6) (hf : ∀ z, z ≠ a → M'.1 z = M.1 z) (hz : M'.2 = M.2) : DF f n E B G k M' :=
  h.keep (S := [a]) ⟨fun z _ h9 => hf z (fun e => h9 (by rw [e]; exact List.mem_cons_self)), by rw [hz]; exact Nat.le_refl _⟩ (nDc ha hc nDn)
/-- all methods have been looked at -/
def DMe (f : Nat → Int32) (n : Nat) (E : List (Nat × Nat)) (mj q b : Nat) (B : List Nat) (G : Nat → Nat) (M : mi_H) : Prop := ∃ T, DM f n E mj q b B G B.length T M
theorem DMe.keep {B : List Nat} {G : Nat → Nat} {S : List Nat} (h : DMe f n E mj q b B G M) (hf : gm S M M') (hs : nD B.length B G S M) : DMe f n E mj q b B G M' := by
  obtain ⟨T, h⟩ := h
  exact ⟨T, h.keep hf hs⟩
theorem DMe.put {B : List Nat} {G : Nat → Nat} {a ci : Nat} {l : List Value} (h : DMe f n E mj q b B G M) (ha : M.1 a = some (ob ci l)) (hc : ¬ ci = 4 ∧ ¬ ci = 5 ∧ ¬ ci = 6) (hf : ∀ z, z ≠ a → M'.1 z = M.1 z) (hz : M'.2 = M.2) : DMe f n E mj q b B G M' :=
  h.keep (S := [a]) ⟨fun z _ h9 => hf z (fun e => h9 (by rw [e]; exact List.mem_cons_self)), by rw [hz]; exact Nat.le_refl _⟩ (nDc ha hc nDn)
/-- code that is kept -/
abbrev cdk (f : Nat → Int32) (mj q p z : Nat) (v8 v9 v10 : Value) : mi_C := ob 4 [.int (nI (by2 f (p + 6))), .int (nI (by2 f (p + 8))), .int (nI (by4 f (p + 10))), .int (nI (p + 14 + by4 f (p + 10) + 2)), .int (nI (by2 f (p + 14 + by4 f (p + 10)))), .ref q, .int (nI mj), .ref (z + 1), v8, v9, v10]
def CDk (f : Nat → Int32) (mj q p : Nat) (v : Value) (M : mi_H) : Prop := (p = 0 ∧ v = .null) ∨ (¬ p = 0 ∧ ∃ (z : Nat) (v8 v9 v10 : Value), v = .ref z ∧ z < M.2.1 ∧ M.1 z = some (cdk f mj q p z v8 v9 v10))
/-- methods that are kept -/
def DMk (f : Nat → Int32) (n : Nat) (E : List (Nat × Nat)) (mj q : Nat) (B : List Nat) (G : Nat → Nat) (M : mi_H) : Prop := ∀ i, i < B.length → G i < M.2.1 ∧ ∃ v, M.1 (G i) = some (mcell f (B.getD i 0) (nI (mK f n E (B.getD i 0)).1) 0 (nI (apN f n E (B.getD i 0))) (nI (mK f n E (B.getD i 0)).2.2) v) ∧ CDk f mj q (mK f n E (B.getD i 0)).2.1 v M
theorem DMe.k {B : List Nat} {G : Nat → Nat} (h : DMe f n E mj q b B G M) : DMk f n E mj q B G M := fun i hi => by
  obtain ⟨T, Z, -, -, h⟩ := h
  obtain ⟨h1, v, h2, h3, -⟩ := h i hi hi
  refine ⟨h1, v, h2, ?_⟩
  rcases h3 with h3 | ⟨g0, z, g1, g2, g3, g4, g5⟩
  · exact Or.inl h3
  · exact Or.inr ⟨g0, z, .int 0, .null, .null, g1, by omega, g4⟩
/-- codes keep their first eight fields -/
def H4 (M M' : mi_H) : Prop := ∀ z l, z < M.2.1 → M.1 z = some (ob 4 l) → l.length = 11 → ∃ l', M'.1 z = some (ob 4 l') ∧ l'.length = 11 ∧ l'.take 8 = l.take 8
theorem CDk.mov {p : Nat} {v : Value} (h : CDk f mj q p v M) (hz : M.2.1 ≤ M'.2.1) (h4 : H4 M M') : CDk f mj q p v M' := by
  rcases h with h | ⟨h0, z, v8, v9, v10, h1, h2, h3⟩
  · exact Or.inl h
  · obtain ⟨l', a1, a2, a3⟩ := h4 z _ h2 h3 rfl
    match l', a2, a3, a1 with
    | [b0, b1, b2, b3, b4, b5, b6, b7, b8, b9, b10], _, a3, a1 =>
      have e : [b0, b1, b2, b3, b4, b5, b6, b7] = [Value.int (nI (by2 f (p + 6))), .int (nI (by2 f (p + 8))), .int (nI (by4 f (p + 10))), .int (nI (p + 14 + by4 f (p + 10) + 2)), .int (nI (by2 f (p + 14 + by4 f (p + 10)))), .ref q, .int (nI mj), .ref (z + 1)] := a3
      simp only [List.cons.injEq, and_true] at e
      obtain ⟨rfl, rfl, rfl, rfl, rfl, rfl, rfl, rfl⟩ := e
      exact Or.inr ⟨h0, z, b8, b9, b10, h1, by omega, a1⟩
theorem DMk.mov3 {B : List Nat} {G : Nat → Nat} (h : DMk f n E mj q B G M) (hz : M.2.1 ≤ M'.2.1) (hm : ∀ z c', z < M.2.1 → M.1 z = some c' → (∀ o, c' = .inr o → o.1 = 6) → (∀ k F, c' ≠ ar .byte k F) → M'.1 z = some c') (h4 : H4 M M') : DMk f n E mj q B G M' := fun i hi => by
  obtain ⟨h1, v, h2, h3⟩ := h i hi
  exact ⟨by omega, v, hm _ _ h1 h2 (fun o h9 => by cases h9; rfl) (fun k F h9 => by cases h9), h3.mov hz h4⟩
theorem DF.mov3 {B : List Nat} {G : Nat → Nat} {k : Nat} (h : DF f n E B G k M) (hz : M.2.1 ≤ M'.2.1) (hm : ∀ z c', z < M.2.1 → M.1 z = some c' → (∀ o, c' = .inr o → o.1 = 6) → (∀ k F, c' ≠ ar .byte k F) → M'.1 z = some c') : DF f n E B G k M' := fun i hi hb => by
  obtain ⟨h1, h2⟩ := h i hi hb
  exact ⟨by omega, hm _ _ h1 h2 (fun o h9 => by cases h9; rfl) (fun k F h9 => by cases h9)⟩
theorem ob_411 {l l2 : List Value} : ¬ (ob 4 l = ob 11 l2) := fun e => by
  simp only [ob, Sum.inr.injEq, Prod.mk.injEq] at e
  exact absurd e.1 (by decide)
end MUC
set_option maxHeartbeats 1000000 in
theorem dk_inst7 {g : xe_G} {M : mi_H} {o5 b : Nat} {x1 x2 : Int32} (h_o5 : M.1 o5 = some (ob 5 [.null, .int 0, .int 0, .int 0, .int 0, .int 0, .int 0, .int 0, .int 0, .int 0, .int 0, .int 0]))  : pt (mT g) 86 [.ref o5, .ref b, .int x1, .int x2] M (fun v M' => (v = none ∧ M'.1 o5 = some (ob 5 [.ref b, .int x1, .int x2, .int 0, .int 0, .int 0, .int 0, .int 0, .int 0, .int 0, .int 0, .int 0]) ∧ fm [o5] M M')) := by
  refine pt_in (b := mb_86 g) rfl (fun kf => ?_)
  show pl (mT g) kf (mb_86 g).2 (0, [(0, .ref o5), (1, .ref b), (2, .int x1), (3, .int x2)], [], M) _
  have hF : fm [o5] M M := fm.rf
  refine ps_st (S' := (1, [(0, .ref o5), (1, .ref b), (2, .int x1), (3, .int x2)], [.ref o5], M)) rfl rfl rfl ?_
  refine ps_st (S' := (4, [(0, .ref o5), (1, .ref b), (2, .int x1), (3, .int x2)], [], M)) rfl rfl rfl ?_
  refine ps_st (S' := (5, [(0, .ref o5), (1, .ref b), (2, .int x1), (3, .int x2)], [.ref o5], M)) rfl rfl rfl ?_
  refine ps_st (S' := (6, [(0, .ref o5), (1, .ref b), (2, .int x1), (3, .int x2)], [.ref b, .ref o5], M)) rfl rfl rfl ?_
  refine ps_put (l' := [.ref b, .int 0, .int 0, .int 0, .int 0, .int 0, .int 0, .int 0, .int 0, .int 0, .int 0, .int 0]) rfl h_o5 rfl rfl (fun M1 h2 f3 z4 => ?_)
  have hF5 := hF.up (by simp) f3 z4
  show pl _ _ _ (9, [(0, .ref o5), (1, .ref b), (2, .int x1), (3, .int x2)], [], M1) _
  refine ps_st (S' := (10, [(0, .ref o5), (1, .ref b), (2, .int x1), (3, .int x2)], [.ref o5], M1)) rfl rfl rfl ?_
  refine ps_st (S' := (11, [(0, .ref o5), (1, .ref b), (2, .int x1), (3, .int x2)], [.int x1, .ref o5], M1)) rfl rfl rfl ?_
  refine ps_put (l' := [.ref b, .int x1, .int 0, .int 0, .int 0, .int 0, .int 0, .int 0, .int 0, .int 0, .int 0, .int 0]) rfl h2 rfl rfl (fun M6 h7 f8 z9 => ?_)
  have hF10 := hF5.up (by simp) f8 z9
  show pl _ _ _ (14, [(0, .ref o5), (1, .ref b), (2, .int x1), (3, .int x2)], [], M6) _
  refine ps_st (S' := (15, [(0, .ref o5), (1, .ref b), (2, .int x1), (3, .int x2)], [.ref o5], M6)) rfl rfl rfl ?_
  refine ps_st (S' := (16, [(0, .ref o5), (1, .ref b), (2, .int x1), (3, .int x2)], [.int x2, .ref o5], M6)) rfl rfl rfl ?_
  refine ps_put (l' := [.ref b, .int x1, .int x2, .int 0, .int 0, .int 0, .int 0, .int 0, .int 0, .int 0, .int 0, .int 0]) rfl h7 rfl rfl (fun M11 h12 f13 z14 => ?_)
  have hF15 := hF10.up (by simp) f13 z14
  show pl _ _ _ (19, [(0, .ref o5), (1, .ref b), (2, .int x1), (3, .int x2)], [], M11) _
  exact ps_ret rfl rfl (⟨rfl, h12, hF15⟩)
set_option maxHeartbeats 1000000 in
theorem dk_code7 {g : xe_G} {M : mi_H} {f : Nat → Int32} {n q c b da fr mr fa ic mj na pa cd0 p0 : Nat} {mi k1 k2 k3 k4 k5 k6 k7 : Int32} (h_cd0 : M.1 cd0 = some (ob 4 [.int 0, .int 0, .int 0, .int 0, .int 0, .null, .int 0, .null, .int 0, .null, .null])) (h_c : M.1 c = some (ob 3 [.ref b, .ref q, .int mi, .int (nI mj), .int (nI fa), .int (nI ic), .ref fr, .ref mr, .int (nI na), .int (nI pa), .int k1, .int k2, .int k3, .int k4, .int k5, .int k6, .int k7])) (h_b : M.1 b = some (ob 1 [.ref da])) (h_da : M.1 da = some (ar .byte n f)) (hn : n ≤ 65540) (hin : p0 + 8 + by4 f (p0 + 4) + 2 ≤ n) (l_cd0 : cd0 < M.2.1) (l_c : c < M.2.1) (l_b : b < M.2.1) (l_da : da < M.2.1) : pt (mT g) 74 [.ref cd0, .ref c, .int (nI p0)] M (fun v M' => (v = none ∧ M'.1 cd0 = some (ob 4 [.int (nI (by2 f p0)), .int (nI (by2 f (p0 + 2))), .int (nI (by4 f (p0 + 4))), .int (nI (p0 + 8 + by4 f (p0 + 4) + 2)), .int (nI (by2 f (p0 + 8 + by4 f (p0 + 4)))), .ref q, .int (nI mj), .ref (M.2.1), .int 0, .null, .null]) ∧ M'.1 (M.2.1) = some (ob 5 [.ref b, .int (nI (p0 + 8)), .int (nI (by4 f (p0 + 4))), .int 0, .int 0, .int 0, .int 0, .int 0, .int 0, .int 0, .int 0, .int 0]) ∧ gm [cd0] M M' ∧ M'.2.1 = M.2.1 + 1)) := by
  refine pt_in (b := mb_74 g) rfl (fun kf => ?_)
  show pl (mT g) kf (mb_74 g).2 (0, [(0, .ref cd0), (1, .ref c), (2, .int (nI p0))], [], M) _
  have hF : gm [cd0] M M := gm.rf
  obtain ⟨z0, tp0⟩ : ∃ z0, M.2.1 = z0 := ⟨_, rfl⟩
  refine ps_st (S' := (1, [(0, .ref cd0), (1, .ref c), (2, .int (nI p0))], [.ref cd0], M)) rfl rfl rfl ?_
  refine ps_st (S' := (4, [(0, .ref cd0), (1, .ref c), (2, .int (nI p0))], [], M)) rfl rfl rfl ?_
  refine ps_st (S' := (5, [(0, .ref cd0), (1, .ref c), (2, .int (nI p0))], [.ref c], M)) rfl rfl rfl ?_
  refine ps_get (S' := (8, [(0, .ref cd0), (1, .ref c), (2, .int (nI p0))], [.ref b], M)) rfl h_c rfl rfl ?_
  refine ps_st (S' := (9, [(3, .ref b), (0, .ref cd0), (1, .ref c), (2, .int (nI p0))], [], M)) rfl rfl rfl ?_
  refine ps_st (S' := (10, [(3, .ref b), (0, .ref cd0), (1, .ref c), (2, .int (nI p0))], [.ref cd0], M)) rfl rfl rfl ?_
  refine ps_st (S' := (11, [(3, .ref b), (0, .ref cd0), (1, .ref c), (2, .int (nI p0))], [.ref b, .ref cd0], M)) rfl rfl rfl ?_
  refine ps_st (S' := (12, [(3, .ref b), (0, .ref cd0), (1, .ref c), (2, .int (nI p0))], [.int (nI p0), .ref b, .ref cd0], M)) rfl rfl rfl ?_
  refine pl_call (a := [.ref b, .int (nI p0)]) (rest := [.ref cd0]) rfl rfl rfl (dk_u2 (f := f) (n := n) (b := b) (da := da) (p := p0) h_b h_da (hn) (by omega)) (fun v1 M2 q3 => ?_)
  obtain ⟨rfl, rfl⟩ := q3
  show pl _ _ _ (15, [(3, .ref b), (0, .ref cd0), (1, .ref c), (2, .int (nI p0))], [.int (nI (by2 f p0)), .ref cd0], M) _
  have hu_12 := by2_lt f p0
  refine ps_put (l' := [.int (nI (by2 f p0)), .int 0, .int 0, .int 0, .int 0, .null, .int 0, .null, .int 0, .null, .null]) rfl h_cd0 rfl rfl (fun M4 h5 f6 z7 => ?_)
  have h8 := (f6 c (ob_ne h_c h_cd0 (by decide))).trans h_c
  have h9 := (f6 b (ob_ne h_b h_cd0 (by decide))).trans h_b
  have h10 := (f6 da (Ne.symm (ob_ar h_cd0 h_da))).trans h_da
  have hF11 := hF.up (Or.inl (by simp)) f6 (by rw [z7]; exact Nat.le_refl _)
  have tp12 : M4.2.1 = z0 := by rw [z7]; exact tp0
  show pl _ _ _ (18, [(3, .ref b), (0, .ref cd0), (1, .ref c), (2, .int (nI p0))], [], M4) _
  refine ps_st (S' := (19, [(3, .ref b), (0, .ref cd0), (1, .ref c), (2, .int (nI p0))], [.ref cd0], M4)) rfl rfl rfl ?_
  refine ps_st (S' := (20, [(3, .ref b), (0, .ref cd0), (1, .ref c), (2, .int (nI p0))], [.ref b, .ref cd0], M4)) rfl rfl rfl ?_
  refine ps_st (S' := (21, [(3, .ref b), (0, .ref cd0), (1, .ref c), (2, .int (nI p0))], [.int (nI p0), .ref b, .ref cd0], M4)) rfl rfl rfl ?_
  refine ps_st (S' := (22, [(3, .ref b), (0, .ref cd0), (1, .ref c), (2, .int (nI p0))], [.int 2, .int (nI p0), .ref b, .ref cd0], M4)) rfl rfl rfl ?_
  refine ps_st (S' := (23, [(3, .ref b), (0, .ref cd0), (1, .ref c), (2, .int (nI p0))], [.int ((nI p0) + 2), .ref b, .ref cd0], M4)) rfl rfl rfl ?_
  rw [nI_add1 (p := p0) (k := 2) (x := 2) rfl (by omega)]
  show pl _ _ _ (_, [(3, .ref b), (0, .ref cd0), (1, .ref c), (2, .int (nI p0))], [.int (nI (p0 + 2)), .ref b, .ref cd0], M4) _
  refine pl_call (a := [.ref b, .int (nI (p0 + 2))]) (rest := [.ref cd0]) rfl rfl rfl (dk_u2 (f := f) (n := n) (b := b) (da := da) (p := (p0 + 2)) h9 h10 (hn) (by omega)) (fun v13 M14 q15 => ?_)
  obtain ⟨rfl, rfl⟩ := q15
  show pl _ _ _ (26, [(3, .ref b), (0, .ref cd0), (1, .ref c), (2, .int (nI p0))], [.int (nI (by2 f (p0 + 2))), .ref cd0], M4) _
  have hu_23 := by2_lt f (p0 + 2)
  refine ps_put (l' := [.int (nI (by2 f p0)), .int (nI (by2 f (p0 + 2))), .int 0, .int 0, .int 0, .null, .int 0, .null, .int 0, .null, .null]) rfl h5 rfl rfl (fun M16 h17 f18 z19 => ?_)
  have h20 := (f18 c (ob_ne h8 h5 (by decide))).trans h8
  have h21 := (f18 b (ob_ne h9 h5 (by decide))).trans h9
  have h22 := (f18 da (Ne.symm (ob_ar h5 h10))).trans h10
  have hF23 := hF11.up (Or.inl (by simp)) f18 (by rw [z19]; exact Nat.le_refl _)
  have tp24 : M16.2.1 = z0 := by rw [z19]; exact tp12
  show pl _ _ _ (29, [(3, .ref b), (0, .ref cd0), (1, .ref c), (2, .int (nI p0))], [], M16) _
  refine ps_st (S' := (30, [(3, .ref b), (0, .ref cd0), (1, .ref c), (2, .int (nI p0))], [.ref cd0], M16)) rfl rfl rfl ?_
  refine ps_st (S' := (31, [(3, .ref b), (0, .ref cd0), (1, .ref c), (2, .int (nI p0))], [.ref b, .ref cd0], M16)) rfl rfl rfl ?_
  refine ps_st (S' := (32, [(3, .ref b), (0, .ref cd0), (1, .ref c), (2, .int (nI p0))], [.int (nI p0), .ref b, .ref cd0], M16)) rfl rfl rfl ?_
  refine ps_st (S' := (33, [(3, .ref b), (0, .ref cd0), (1, .ref c), (2, .int (nI p0))], [.int 4, .int (nI p0), .ref b, .ref cd0], M16)) rfl rfl rfl ?_
  refine ps_st (S' := (34, [(3, .ref b), (0, .ref cd0), (1, .ref c), (2, .int (nI p0))], [.int ((nI p0) + 4), .ref b, .ref cd0], M16)) rfl rfl rfl ?_
  rw [nI_add1 (p := p0) (k := 4) (x := 4) rfl (by omega)]
  show pl _ _ _ (_, [(3, .ref b), (0, .ref cd0), (1, .ref c), (2, .int (nI p0))], [.int (nI (p0 + 4)), .ref b, .ref cd0], M16) _
  refine pl_call (a := [.ref b, .int (nI (p0 + 4))]) (rest := [.ref cd0]) rfl rfl rfl (dk_u4 (f := f) (n := n) (b := b) (da := da) (p := (p0 + 4)) h21 h22 (hn) (by omega)) (fun v25 M26 q27 => ?_)
  obtain ⟨rfl, rfl⟩ := q27
  show pl _ _ _ (37, [(3, .ref b), (0, .ref cd0), (1, .ref c), (2, .int (nI p0))], [.int (nI (by4 f (p0 + 4))), .ref cd0], M16) _
  have hu_34 := by4_lt f (p0 + 4)
  refine ps_put (l' := [.int (nI (by2 f p0)), .int (nI (by2 f (p0 + 2))), .int (nI (by4 f (p0 + 4))), .int 0, .int 0, .null, .int 0, .null, .int 0, .null, .null]) rfl h17 rfl rfl (fun M28 h29 f30 z31 => ?_)
  have h32 := (f30 c (ob_ne h20 h17 (by decide))).trans h20
  have h33 := (f30 b (ob_ne h21 h17 (by decide))).trans h21
  have h34 := (f30 da (Ne.symm (ob_ar h17 h22))).trans h22
  have hF35 := hF23.up (Or.inl (by simp)) f30 (by rw [z31]; exact Nat.le_refl _)
  have tp36 : M28.2.1 = z0 := by rw [z31]; exact tp24
  show pl _ _ _ (40, [(3, .ref b), (0, .ref cd0), (1, .ref c), (2, .int (nI p0))], [], M28) _
  refine ps_st (S' := (41, [(3, .ref b), (0, .ref cd0), (1, .ref c), (2, .int (nI p0))], [.ref cd0], M28)) rfl rfl rfl ?_
  refine ps_st (S' := (42, [(3, .ref b), (0, .ref cd0), (1, .ref c), (2, .int (nI p0))], [.int (nI p0), .ref cd0], M28)) rfl rfl rfl ?_
  refine ps_st (S' := (44, [(3, .ref b), (0, .ref cd0), (1, .ref c), (2, .int (nI p0))], [.int 8, .int (nI p0), .ref cd0], M28)) rfl rfl rfl ?_
  refine ps_st (S' := (45, [(3, .ref b), (0, .ref cd0), (1, .ref c), (2, .int (nI p0))], [.int ((nI p0) + 8), .ref cd0], M28)) rfl rfl rfl ?_
  rw [nI_add1 (p := p0) (k := 8) (x := 8) rfl (by omega)]
  show pl _ _ _ (_, [(3, .ref b), (0, .ref cd0), (1, .ref c), (2, .int (nI p0))], [.int (nI (p0 + 8)), .ref cd0], M28) _
  refine ps_st (S' := (46, [(3, .ref b), (0, .ref cd0), (1, .ref c), (2, .int (nI p0))], [.ref cd0, .int (nI (p0 + 8)), .ref cd0], M28)) rfl rfl rfl ?_
  refine ps_get (S' := (49, [(3, .ref b), (0, .ref cd0), (1, .ref c), (2, .int (nI p0))], [.int (nI (by4 f (p0 + 4))), .int (nI (p0 + 8)), .ref cd0], M28)) rfl h29 rfl rfl ?_
  refine ps_st (S' := (50, [(3, .ref b), (0, .ref cd0), (1, .ref c), (2, .int (nI p0))], [.int ((nI (p0 + 8)) + (nI (by4 f (p0 + 4)))), .ref cd0], M28)) rfl rfl rfl ?_
  rw [nI_add1 (p := p0 + 8) (k := by4 f (p0 + 4)) (x := (nI (by4 f (p0 + 4)))) rfl (by omega)]
  show pl _ _ _ (_, [(3, .ref b), (0, .ref cd0), (1, .ref c), (2, .int (nI p0))], [.int (nI (p0 + 8 + by4 f (p0 + 4))), .ref cd0], M28) _
  refine ps_st (S' := (51, [(3, .ref b), (0, .ref cd0), (1, .ref c), (2, .int (nI p0))], [.int 2, .int (nI (p0 + 8 + by4 f (p0 + 4))), .ref cd0], M28)) rfl rfl rfl ?_
  refine ps_st (S' := (52, [(3, .ref b), (0, .ref cd0), (1, .ref c), (2, .int (nI p0))], [.int ((nI (p0 + 8 + by4 f (p0 + 4))) + 2), .ref cd0], M28)) rfl rfl rfl ?_
  rw [nI_add1 (p := p0 + 8 + by4 f (p0 + 4)) (k := 2) (x := 2) rfl (by omega)]
  show pl _ _ _ (_, [(3, .ref b), (0, .ref cd0), (1, .ref c), (2, .int (nI p0))], [.int (nI (p0 + 8 + by4 f (p0 + 4) + 2)), .ref cd0], M28) _
  refine ps_put (l' := [.int (nI (by2 f p0)), .int (nI (by2 f (p0 + 2))), .int (nI (by4 f (p0 + 4))), .int (nI (p0 + 8 + by4 f (p0 + 4) + 2)), .int 0, .null, .int 0, .null, .int 0, .null, .null]) rfl h29 rfl rfl (fun M37 h38 f39 z40 => ?_)
  have h41 := (f39 c (ob_ne h32 h29 (by decide))).trans h32
  have h42 := (f39 b (ob_ne h33 h29 (by decide))).trans h33
  have h43 := (f39 da (Ne.symm (ob_ar h29 h34))).trans h34
  have hF44 := hF35.up (Or.inl (by simp)) f39 (by rw [z40]; exact Nat.le_refl _)
  have tp45 : M37.2.1 = z0 := by rw [z40]; exact tp36
  show pl _ _ _ (55, [(3, .ref b), (0, .ref cd0), (1, .ref c), (2, .int (nI p0))], [], M37) _
  refine ps_st (S' := (56, [(3, .ref b), (0, .ref cd0), (1, .ref c), (2, .int (nI p0))], [.ref cd0], M37)) rfl rfl rfl ?_
  refine ps_st (S' := (57, [(3, .ref b), (0, .ref cd0), (1, .ref c), (2, .int (nI p0))], [.ref b, .ref cd0], M37)) rfl rfl rfl ?_
  refine ps_st (S' := (58, [(3, .ref b), (0, .ref cd0), (1, .ref c), (2, .int (nI p0))], [.ref cd0, .ref b, .ref cd0], M37)) rfl rfl rfl ?_
  refine ps_get (S' := (61, [(3, .ref b), (0, .ref cd0), (1, .ref c), (2, .int (nI p0))], [.int (nI (p0 + 8 + by4 f (p0 + 4) + 2)), .ref b, .ref cd0], M37)) rfl h38 rfl rfl ?_
  refine ps_st (S' := (62, [(3, .ref b), (0, .ref cd0), (1, .ref c), (2, .int (nI p0))], [.int 2, .int (nI (p0 + 8 + by4 f (p0 + 4) + 2)), .ref b, .ref cd0], M37)) rfl rfl rfl ?_
  refine ps_st (S' := (63, [(3, .ref b), (0, .ref cd0), (1, .ref c), (2, .int (nI p0))], [.int ((nI (p0 + 8 + by4 f (p0 + 4) + 2)) - 2), .ref b, .ref cd0], M37)) rfl rfl rfl ?_
  rw [nI_sub1 (p := p0 + 8 + by4 f (p0 + 4) + 2) (k := 2) (x := 2) rfl (by omega) (by omega)]
  show pl _ _ _ (_, [(3, .ref b), (0, .ref cd0), (1, .ref c), (2, .int (nI p0))], [.int (nI ((p0 + 8 + by4 f (p0 + 4) + 2) - 2)), .ref b, .ref cd0], M37) _
  rw [Nat.add_sub_cancel]
  refine pl_call (a := [.ref b, .int (nI (p0 + 8 + by4 f (p0 + 4)))]) (rest := [.ref cd0]) rfl rfl rfl (dk_u2 (f := f) (n := n) (b := b) (da := da) (p := (p0 + 8 + by4 f (p0 + 4))) h42 h43 (hn) (by omega)) (fun v46 M47 q48 => ?_)
  obtain ⟨rfl, rfl⟩ := q48
  show pl _ _ _ (66, [(3, .ref b), (0, .ref cd0), (1, .ref c), (2, .int (nI p0))], [.int (nI (by2 f (p0 + 8 + by4 f (p0 + 4)))), .ref cd0], M37) _
  have hu_63 := by2_lt f (p0 + 8 + by4 f (p0 + 4))
  refine ps_put (l' := [.int (nI (by2 f p0)), .int (nI (by2 f (p0 + 2))), .int (nI (by4 f (p0 + 4))), .int (nI (p0 + 8 + by4 f (p0 + 4) + 2)), .int (nI (by2 f (p0 + 8 + by4 f (p0 + 4)))), .null, .int 0, .null, .int 0, .null, .null]) rfl h38 rfl rfl (fun M49 h50 f51 z52 => ?_)
  have h53 := (f51 c (ob_ne h41 h38 (by decide))).trans h41
  have h54 := (f51 b (ob_ne h42 h38 (by decide))).trans h42
  have h55 := (f51 da (Ne.symm (ob_ar h38 h43))).trans h43
  have hF56 := hF44.up (Or.inl (by simp)) f51 (by rw [z52]; exact Nat.le_refl _)
  have tp57 : M49.2.1 = z0 := by rw [z52]; exact tp45
  show pl _ _ _ (69, [(3, .ref b), (0, .ref cd0), (1, .ref c), (2, .int (nI p0))], [], M49) _
  refine ps_st (S' := (70, [(3, .ref b), (0, .ref cd0), (1, .ref c), (2, .int (nI p0))], [.ref cd0], M49)) rfl rfl rfl ?_
  refine ps_st (S' := (71, [(3, .ref b), (0, .ref cd0), (1, .ref c), (2, .int (nI p0))], [.ref c, .ref cd0], M49)) rfl rfl rfl ?_
  refine ps_get (S' := (74, [(3, .ref b), (0, .ref cd0), (1, .ref c), (2, .int (nI p0))], [.ref q, .ref cd0], M49)) rfl h53 rfl rfl ?_
  refine ps_put (l' := [.int (nI (by2 f p0)), .int (nI (by2 f (p0 + 2))), .int (nI (by4 f (p0 + 4))), .int (nI (p0 + 8 + by4 f (p0 + 4) + 2)), .int (nI (by2 f (p0 + 8 + by4 f (p0 + 4)))), .ref q, .int 0, .null, .int 0, .null, .null]) rfl h50 rfl rfl (fun M58 h59 f60 z61 => ?_)
  have h62 := (f60 c (ob_ne h53 h50 (by decide))).trans h53
  have h63 := (f60 b (ob_ne h54 h50 (by decide))).trans h54
  have h64 := (f60 da (Ne.symm (ob_ar h50 h55))).trans h55
  have hF65 := hF56.up (Or.inl (by simp)) f60 (by rw [z61]; exact Nat.le_refl _)
  have tp66 : M58.2.1 = z0 := by rw [z61]; exact tp57
  show pl _ _ _ (77, [(3, .ref b), (0, .ref cd0), (1, .ref c), (2, .int (nI p0))], [], M58) _
  refine ps_st (S' := (78, [(3, .ref b), (0, .ref cd0), (1, .ref c), (2, .int (nI p0))], [.ref cd0], M58)) rfl rfl rfl ?_
  refine ps_st (S' := (79, [(3, .ref b), (0, .ref cd0), (1, .ref c), (2, .int (nI p0))], [.ref c, .ref cd0], M58)) rfl rfl rfl ?_
  refine ps_get (S' := (82, [(3, .ref b), (0, .ref cd0), (1, .ref c), (2, .int (nI p0))], [.int (nI mj), .ref cd0], M58)) rfl h62 rfl rfl ?_
  refine ps_put (l' := [.int (nI (by2 f p0)), .int (nI (by2 f (p0 + 2))), .int (nI (by4 f (p0 + 4))), .int (nI (p0 + 8 + by4 f (p0 + 4) + 2)), .int (nI (by2 f (p0 + 8 + by4 f (p0 + 4)))), .ref q, .int (nI mj), .null, .int 0, .null, .null]) rfl h59 rfl rfl (fun M67 h68 f69 z70 => ?_)
  have h71 := (f69 c (ob_ne h62 h59 (by decide))).trans h62
  have h72 := (f69 b (ob_ne h63 h59 (by decide))).trans h63
  have h73 := (f69 da (Ne.symm (ob_ar h59 h64))).trans h64
  have hF74 := hF65.up (Or.inl (by simp)) f69 (by rw [z70]; exact Nat.le_refl _)
  have tp75 : M67.2.1 = z0 := by rw [z70]; exact tp66
  show pl _ _ _ (85, [(3, .ref b), (0, .ref cd0), (1, .ref c), (2, .int (nI p0))], [], M67) _
  refine ps_st (S' := (86, [(3, .ref b), (0, .ref cd0), (1, .ref c), (2, .int (nI p0))], [.ref cd0], M67)) rfl rfl rfl ?_
  refine ps_newz rfl tp75 (fun M76 h77 f78 tp79 => ?_)
  have h80 := (f78 cd0 (show cd0 ≠ z0 by omega)).trans h68
  have h81 := (f78 c (show c ≠ z0 by omega)).trans h71
  have h82 := (f78 b (show b ≠ z0 by omega)).trans h72
  have h83 := (f78 da (show da ≠ z0 by omega)).trans h73
  have hF84 := hF74.up (Or.inr (by omega)) f78 (by omega)
  show pl _ _ _ (89, [(3, .ref b), (0, .ref cd0), (1, .ref c), (2, .int (nI p0))], [.ref z0, .ref cd0], M76) _
  refine ps_st (S' := (90, [(3, .ref b), (0, .ref cd0), (1, .ref c), (2, .int (nI p0))], [.ref z0, .ref z0, .ref cd0], M76)) rfl rfl rfl ?_
  refine ps_st (S' := (91, [(3, .ref b), (0, .ref cd0), (1, .ref c), (2, .int (nI p0))], [.ref b, .ref z0, .ref z0, .ref cd0], M76)) rfl rfl rfl ?_
  refine ps_st (S' := (92, [(3, .ref b), (0, .ref cd0), (1, .ref c), (2, .int (nI p0))], [.int (nI p0), .ref b, .ref z0, .ref z0, .ref cd0], M76)) rfl rfl rfl ?_
  refine ps_st (S' := (94, [(3, .ref b), (0, .ref cd0), (1, .ref c), (2, .int (nI p0))], [.int 8, .int (nI p0), .ref b, .ref z0, .ref z0, .ref cd0], M76)) rfl rfl rfl ?_
  refine ps_st (S' := (95, [(3, .ref b), (0, .ref cd0), (1, .ref c), (2, .int (nI p0))], [.int ((nI p0) + 8), .ref b, .ref z0, .ref z0, .ref cd0], M76)) rfl rfl rfl ?_
  rw [nI_add1 (p := p0) (k := 8) (x := 8) rfl (by omega)]
  show pl _ _ _ (_, [(3, .ref b), (0, .ref cd0), (1, .ref c), (2, .int (nI p0))], [.int (nI (p0 + 8)), .ref b, .ref z0, .ref z0, .ref cd0], M76) _
  refine ps_st (S' := (96, [(3, .ref b), (0, .ref cd0), (1, .ref c), (2, .int (nI p0))], [.ref cd0, .int (nI (p0 + 8)), .ref b, .ref z0, .ref z0, .ref cd0], M76)) rfl rfl rfl ?_
  refine ps_get (S' := (99, [(3, .ref b), (0, .ref cd0), (1, .ref c), (2, .int (nI p0))], [.int (nI (by4 f (p0 + 4))), .int (nI (p0 + 8)), .ref b, .ref z0, .ref z0, .ref cd0], M76)) rfl h80 rfl rfl ?_
  refine pl_call (a := [.ref z0, .ref b, .int (nI (p0 + 8)), .int (nI (by4 f (p0 + 4)))]) (rest := [.ref z0, .ref cd0]) rfl rfl rfl (dk_inst7 (o5 := z0) (b := b) (x1 := (nI (p0 + 8))) (x2 := (nI (by4 f (p0 + 4)))) h77) (fun v85 M86 q87 => ?_)
  obtain ⟨rfl, h88, f89⟩ := q87
  have h91 := (f89.1 cd0 (nin1 (show cd0 ≠ z0 by omega))).trans h80
  have h92 := (f89.1 c (nin1 (show c ≠ z0 by omega))).trans h81
  have h93 := (f89.1 b (nin1 (show b ≠ z0 by omega))).trans h82
  have h94 := (f89.1 da (nin1 (show da ≠ z0 by omega))).trans h83
  have hF95 := hF84.trf f89 (by intro z hz; simp only [List.mem_cons, List.not_mem_nil, or_false] at hz ⊢; try omega)
  have tp96 : M86.2.1 = z0 + 1 := by rw [f89.2]; exact tp79
  show pl _ _ _ (102, [(3, .ref b), (0, .ref cd0), (1, .ref c), (2, .int (nI p0))], [.ref z0, .ref cd0], M86) _
  refine ps_put (l' := [.int (nI (by2 f p0)), .int (nI (by2 f (p0 + 2))), .int (nI (by4 f (p0 + 4))), .int (nI (p0 + 8 + by4 f (p0 + 4) + 2)), .int (nI (by2 f (p0 + 8 + by4 f (p0 + 4)))), .ref q, .int (nI mj), .ref z0, .int 0, .null, .null]) rfl h91 rfl rfl (fun M97 h98 f99 z100 => ?_)
  have h101 := (f99 c (ob_ne h92 h91 (by decide))).trans h92
  have h102 := (f99 b (ob_ne h93 h91 (by decide))).trans h93
  have h103 := (f99 da (Ne.symm (ob_ar h91 h94))).trans h94
  have h104 := (f99 z0 (show z0 ≠ cd0 by omega)).trans h88
  have hF105 := hF95.up (Or.inl (by simp)) f99 (by rw [z100]; exact Nat.le_refl _)
  have tp106 : M97.2.1 = z0 + 1 := by rw [z100]; exact tp96
  show pl _ _ _ (105, [(3, .ref b), (0, .ref cd0), (1, .ref c), (2, .int (nI p0))], [], M97) _
  refine ps_st (S' := (106, [(3, .ref b), (0, .ref cd0), (1, .ref c), (2, .int (nI p0))], [.ref cd0], M97)) rfl rfl rfl ?_
  refine ps_st (S' := (107, [(3, .ref b), (0, .ref cd0), (1, .ref c), (2, .int (nI p0))], [.int 0, .ref cd0], M97)) rfl rfl rfl ?_
  refine ps_put (l' := [.int (nI (by2 f p0)), .int (nI (by2 f (p0 + 2))), .int (nI (by4 f (p0 + 4))), .int (nI (p0 + 8 + by4 f (p0 + 4) + 2)), .int (nI (by2 f (p0 + 8 + by4 f (p0 + 4)))), .ref q, .int (nI mj), .ref z0, .int 0, .null, .null]) rfl h98 rfl rfl (fun M107 h108 f109 z110 => ?_)
  have h111 := (f109 c (ob_ne h101 h98 (by decide))).trans h101
  have h112 := (f109 b (ob_ne h102 h98 (by decide))).trans h102
  have h113 := (f109 da (Ne.symm (ob_ar h98 h103))).trans h103
  have h114 := (f109 z0 (show z0 ≠ cd0 by omega)).trans h104
  have hF115 := hF105.up (Or.inl (by simp)) f109 (by rw [z110]; exact Nat.le_refl _)
  have tp116 : M107.2.1 = z0 + 1 := by rw [z110]; exact tp106
  show pl _ _ _ (110, [(3, .ref b), (0, .ref cd0), (1, .ref c), (2, .int (nI p0))], [], M107) _
  exact ps_ret rfl rfl (⟨rfl, by rw [tp0]; exact h108, by rw [tp0]; exact h114, hF115, by rw [tp0]; exact tp116⟩)
set_option maxHeartbeats 1000000 in
theorem dk_codeHolds7 {g : xe_G} {M : mi_H} {f : Nat → Int32} {n N q : Nat} {E : List (Nat × Nat)} {ac c b da vd fr mr fa ic mj na pa : Nat} {mi ru wa k1 k2 k3 k4 k5 k6 k7 : Int32} {a b0 s w p e : Nat} {kn co ex : Int32} {cd : Value} (h_ac : M.1 ac = some (ob 0 [.ref c, .ref b, .ref q, .ref vd, .int (nI s)])) (h_b : M.1 b = some (ob 1 [.ref da])) (h_da : M.1 da = some (ar .byte n f)) (h_c : M.1 c = some (ob 3 [.ref b, .ref q, .int mi, .int (nI mj), .int (nI fa), .int (nI ic), .ref fr, .ref mr, .int (nI na), .int (nI pa), .int k1, .int k2, .int k3, .int k4, .int k5, .int k6, .int k7])) (h_vd : M.1 vd = some (ob 10 [.int ru, .int wa])) (h_a : M.1 a = some (ob 6 [.int (nI b0), .int (nI (by2 f b0)), .int (nI (by2 f (b0 + 2))), .int (nI (by2 f (b0 + 4))), .int (nI (by2 f (b0 + 6))), .int (nI (b0 + 8)), .int kn, .int co, .int (nI w), .int ex, cd])) (hn : n ≤ 65540) (hmj : mj < 65536) (hs : s < 2048) (hw : w < 100000) (he : e ≤ n) (hcd0 : s_cdE f e (p + 6) = some e) (hV : PV g f n N E q M) (l_ac : ac < M.2.1) (l_c : c < M.2.1) (l_b : b < M.2.1) (l_da : da < M.2.1) (l_vd : vd < M.2.1) (l_a : a < M.2.1) (l_q : q < M.2.1) : pt (mT g) 30 [.ref ac, .ref a, .int (nI p)] M (fun v M' => (∃ (e9 : Nat × Nat), (cdS f n E mj w p s = .inl e9) ∧ v = some (.int 0) ∧ M'.1 vd = some (ob 10 [.int (nI e9.1), .int (nI e9.2)]) ∧ gm [ac, vd, a] M M' ∧ M'.2.1 = M.2.1 + 2) ∨ (∃ (s' : Nat), (cdS f n E mj w p s = .inr s') ∧ (s' < 2048) ∧ v = some (.int 1) ∧ M'.1 ac = some (ob 0 [.ref c, .ref b, .ref q, .ref vd, .int (nI s')]) ∧ M'.1 vd = some (ob 10 [.int ru, .int wa]) ∧ M'.1 a = some (ob 6 [.int (nI b0), .int (nI (by2 f b0)), .int (nI (by2 f (b0 + 2))), .int (nI (by2 f (b0 + 4))), .int (nI (by2 f (b0 + 6))), .int (nI (b0 + 8)), .int kn, .int co, .int (nI w), .int ex, .ref (M.2.1)]) ∧ M'.1 (M.2.1) = some (ob 4 [.int (nI (by2 f (p + 6))), .int (nI (by2 f (p + 8))), .int (nI (by4 f (p + 10))), .int (nI (p + 14 + by4 f (p + 10) + 2)), .int (nI (by2 f (p + 14 + by4 f (p + 10)))), .ref q, .int (nI mj), .ref (M.2.1 + 1), .int 0, .null, .null]) ∧ M'.1 (M.2.1 + 1) = some (ob 5 [.ref b, .int (nI (p + 14)), .int (nI (by4 f (p + 10))), .int 0, .int 0, .int 0, .int 0, .int 0, .int 0, .int 0, .int 0, .int 0]) ∧ gm [ac, vd, a] M M' ∧ M'.2.1 = M.2.1 + 2)) := by
  refine pt_in (b := mb_30 g) rfl (fun kf => ?_)
  show pl (mT g) kf (mb_30 g).2 (0, [(0, .ref ac), (1, .ref a), (2, .int (nI p))], [], M) _
  have hF : gm [ac, vd, a] M M := gm.rf
  obtain ⟨z0, tp0⟩ : ∃ z0, M.2.1 = z0 := ⟨_, rfl⟩
  have hcd : p + 14 + by4 f (p + 10) + 2 + 8 * by2 f (p + 14 + by4 f (p + 10)) + 2 ≤ e ∧ True ∧ s_atE f e (by2 f (p + 14 + by4 f (p + 10) + 2 + 8 * by2 f (p + 14 + by4 f (p + 10)))) (p + 14 + by4 f (p + 10) + 2 + 8 * by2 f (p + 14 + by4 f (p + 10)) + 2) = some e := s_cdE_in hcd0
  have hw9 := by2_lt f (p + 14 + by4 f (p + 10))
  have LL : ∀ (kf : Nat), (∀ (i : Nat) (M1 : mi_H), (M1.1 ac = some (ob 0 [.ref c, .ref b, .ref q, .ref vd, .int (nI s)])) → (M1.1 b = some (ob 1 [.ref da])) → (M1.1 da = some (ar .byte n f)) → (M1.1 c = some (ob 3 [.ref b, .ref q, .int mi, .int (nI mj), .int (nI fa), .int (nI ic), .ref fr, .ref mr, .int (nI na), .int (nI pa), .int k1, .int k2, .int k3, .int k4, .int k5, .int k6, .int k7])) → (M1.1 vd = some (ob 10 [.int ru, .int wa])) → (M1.1 a = some (ob 6 [.int (nI b0), .int (nI (by2 f b0)), .int (nI (by2 f (b0 + 2))), .int (nI (by2 f (b0 + 4))), .int (nI (by2 f (b0 + 6))), .int (nI (b0 + 8)), .int kn, .int co, .int (nI w), .int ex, cd])) → (M1.1 z0 = some (ob 4 [.int (nI (by2 f (p + 6))), .int (nI (by2 f (p + 8))), .int (nI (by4 f (p + 10))), .int (nI (p + 14 + by4 f (p + 10) + 2)), .int (nI (by2 f (p + 14 + by4 f (p + 10)))), .ref q, .int (nI mj), .ref (z0 + 1), .int 0, .null, .null])) → (M1.1 (z0 + 1) = some (ob 5 [.ref b, .int (nI (p + 14)), .int (nI (by4 f (p + 10))), .int 0, .int 0, .int 0, .int 0, .int 0, .int 0, .int 0, .int 0, .int 0])) → (PV g f n N E q M1) → (gm [ac, vd, a] M M1) → (M1.2.1 = z0 + 2) → (i ≤ by2 f (p + 14 + by4 f (p + 10))) → (¬ (by4 f (p + 10) < 1 ∨ 65535 < by4 f (p + 10))) → (¬ by2 f (p + 8) < w) → (rwA f E (by4 f (p + 10)) (p + 14 + by4 f (p + 10) + 2) (by2 f (p + 14 + by4 f (p + 10)) - i) i = rwA f E (by4 f (p + 10)) (p + 14 + by4 f (p + 10) + 2) (by2 f (p + 14 + by4 f (p + 10))) 0) →  pl (mT g) kf (mb_30 g).2 (69, [(0, .ref ac), (1, .ref a), (2, .int (nI p)), (3, .ref z0), (4, .int (nI i))], [], M1) (fun v M' => (∃ (e9 : Nat × Nat), (cdS f n E mj w p s = .inl e9) ∧ v = some (.int 0) ∧ M'.1 vd = some (ob 10 [.int (nI e9.1), .int (nI e9.2)]) ∧ gm [ac, vd, a] M M' ∧ M'.2.1 = M.2.1 + 2) ∨ (∃ (s' : Nat), (cdS f n E mj w p s = .inr s') ∧ (s' < 2048) ∧ v = some (.int 1) ∧ M'.1 ac = some (ob 0 [.ref c, .ref b, .ref q, .ref vd, .int (nI s')]) ∧ M'.1 vd = some (ob 10 [.int ru, .int wa]) ∧ M'.1 a = some (ob 6 [.int (nI b0), .int (nI (by2 f b0)), .int (nI (by2 f (b0 + 2))), .int (nI (by2 f (b0 + 4))), .int (nI (by2 f (b0 + 6))), .int (nI (b0 + 8)), .int kn, .int co, .int (nI w), .int ex, .ref (M.2.1)]) ∧ M'.1 (M.2.1) = some (ob 4 [.int (nI (by2 f (p + 6))), .int (nI (by2 f (p + 8))), .int (nI (by4 f (p + 10))), .int (nI (p + 14 + by4 f (p + 10) + 2)), .int (nI (by2 f (p + 14 + by4 f (p + 10)))), .ref q, .int (nI mj), .ref (M.2.1 + 1), .int 0, .null, .null]) ∧ M'.1 (M.2.1 + 1) = some (ob 5 [.ref b, .int (nI (p + 14)), .int (nI (by4 f (p + 10))), .int 0, .int 0, .int 0, .int 0, .int 0, .int 0, .int 0, .int 0, .int 0]) ∧ gm [ac, vd, a] M M' ∧ M'.2.1 = M.2.1 + 2))) := by
    intro kf
    induction kf with
    | zero => exact (by intros; exact pl_0)
    | succ kf ih =>
      intro i M1 hl_ac hl_b hl_da hl_c hl_vd hl_a hl_z0 hl_z0___1 hV1 hF1 tp1 hi hj41 hj42 hr9
      have hu9 := by2_lt f (p + 14 + by4 f (p + 10))
      refine ps_st1 (S' := (71, [(0, .ref ac), (1, .ref a), (2, .int (nI p)), (3, .ref z0), (4, .int (nI i))], [.int (nI i)], M1)) rfl rfl rfl ?_
      refine ps_st (S' := (72, [(0, .ref ac), (1, .ref a), (2, .int (nI p)), (3, .ref z0), (4, .int (nI i))], [.ref z0, .int (nI i)], M1)) rfl rfl rfl ?_
      refine ps_get (S' := (75, [(0, .ref ac), (1, .ref a), (2, .int (nI p)), (3, .ref z0), (4, .int (nI i))], [.int (nI (by2 f (p + 14 + by4 f (p + 10)))), .int (nI i)], M1)) rfl hl_z0 rfl rfl ?_
      refine ps_if2 (S1 := (113, [(0, .ref ac), (1, .ref a), (2, .int (nI p)), (3, .ref z0), (4, .int (nI i))], [], M1)) (S2 := (78, [(0, .ref ac), (1, .ref a), (2, .int (nI p)), (3, .ref z0), (4, .int (nI i))], [], M1)) rfl rfl rfl (fun c_75 => ?_) (fun c_75 => ?_)
      · have c_75 : (nI (by2 f (p + 14 + by4 f (p + 10)))) ≤ (nI i) := of_decide_eq_true c_75
        have n_75 : by2 f (p + 14 + by4 f (p + 10)) ≤ i := (le_nI (p := by2 f (p + 14 + by4 f (p + 10))) (n := i) (Nat.lt_trans (by2_lt _ _) (by decide)) (by omega)).mp c_75
        refine ps_st (S' := (114, [(0, .ref ac), (1, .ref a), (2, .int (nI p)), (3, .ref z0), (4, .int (nI i))], [.ref a], M1)) rfl rfl rfl ?_
        refine ps_st (S' := (115, [(0, .ref ac), (1, .ref a), (2, .int (nI p)), (3, .ref z0), (4, .int (nI i))], [.ref z0, .ref a], M1)) rfl rfl rfl ?_
        refine ps_put (l' := [.int (nI b0), .int (nI (by2 f b0)), .int (nI (by2 f (b0 + 2))), .int (nI (by2 f (b0 + 4))), .int (nI (by2 f (b0 + 6))), .int (nI (b0 + 8)), .int kn, .int co, .int (nI w), .int ex, .ref z0]) rfl hl_a rfl rfl (fun M1 h2 f3 z4 => ?_)
        have h5 := (f3 ac (ob_ne hl_ac hl_a (by decide))).trans hl_ac
        have h6 := (f3 b (ob_ne hl_b hl_a (by decide))).trans hl_b
        have h7 := (f3 da (Ne.symm (ob_ar hl_a hl_da))).trans hl_da
        have h8 := (f3 c (ob_ne hl_c hl_a (by decide))).trans hl_c
        have h9 := (f3 vd (ob_ne hl_vd hl_a (by decide))).trans hl_vd
        have h10 := (f3 z0 (show z0 ≠ a by omega)).trans hl_z0
        have h11 := (f3 (z0 + 1) (show (z0 + 1) ≠ a by omega)).trans hl_z0___1
        have hV12 := hV1.put hl_a (by decide) f3 z4
        have hF13 := hF1.up (Or.inl (by simp)) f3 (by rw [z4]; exact Nat.le_refl _)
        have tp14 : M1.2.1 = z0 + 2 := by rw [z4]; exact tp1
        show pl _ _ _ (118, [(0, .ref ac), (1, .ref a), (2, .int (nI p)), (3, .ref z0), (4, .int (nI i))], [], M1) _
        refine ps_st (S' := (119, [(0, .ref ac), (1, .ref a), (2, .int (nI p)), (3, .ref z0), (4, .int (nI i))], [.ref ac], M1)) rfl rfl rfl ?_
        refine ps_st (S' := (120, [(0, .ref ac), (1, .ref a), (2, .int (nI p)), (3, .ref z0), (4, .int (nI i))], [.ref z0, .ref ac], M1)) rfl rfl rfl ?_
        refine ps_get (S' := (123, [(0, .ref ac), (1, .ref a), (2, .int (nI p)), (3, .ref z0), (4, .int (nI i))], [.int (nI (p + 14 + by4 f (p + 10) + 2)), .ref ac], M1)) rfl h10 rfl rfl ?_
        refine ps_st (S' := (125, [(0, .ref ac), (1, .ref a), (2, .int (nI p)), (3, .ref z0), (4, .int (nI i))], [.int 8, .int (nI (p + 14 + by4 f (p + 10) + 2)), .ref ac], M1)) rfl rfl rfl ?_
        refine ps_st (S' := (126, [(0, .ref ac), (1, .ref a), (2, .int (nI p)), (3, .ref z0), (4, .int (nI i))], [.ref z0, .int 8, .int (nI (p + 14 + by4 f (p + 10) + 2)), .ref ac], M1)) rfl rfl rfl ?_
        refine ps_get (S' := (129, [(0, .ref ac), (1, .ref a), (2, .int (nI p)), (3, .ref z0), (4, .int (nI i))], [.int (nI (by2 f (p + 14 + by4 f (p + 10)))), .int 8, .int (nI (p + 14 + by4 f (p + 10) + 2)), .ref ac], M1)) rfl h10 rfl rfl ?_
        refine ps_st (S' := (130, [(0, .ref ac), (1, .ref a), (2, .int (nI p)), (3, .ref z0), (4, .int (nI i))], [.int (8 * (nI (by2 f (p + 14 + by4 f (p + 10))))), .int (nI (p + 14 + by4 f (p + 10) + 2)), .ref ac], M1)) rfl rfl rfl ?_
        rw [nI_mul1 (p := 8) (k := by2 f (p + 14 + by4 f (p + 10))) (x := 8) (y := (nI (by2 f (p + 14 + by4 f (p + 10))))) rfl rfl (by omega)]
        show pl _ _ _ (_, [(0, .ref ac), (1, .ref a), (2, .int (nI p)), (3, .ref z0), (4, .int (nI i))], [.int (nI (8 * (by2 f (p + 14 + by4 f (p + 10))))), .int (nI (p + 14 + by4 f (p + 10) + 2)), .ref ac], M1) _
        refine ps_st (S' := (131, [(0, .ref ac), (1, .ref a), (2, .int (nI p)), (3, .ref z0), (4, .int (nI i))], [.int ((nI (p + 14 + by4 f (p + 10) + 2)) + (nI (8 * (by2 f (p + 14 + by4 f (p + 10)))))), .ref ac], M1)) rfl rfl rfl ?_
        rw [nI_add1 (p := p + 14 + by4 f (p + 10) + 2) (k := 8 * (by2 f (p + 14 + by4 f (p + 10)))) (x := (nI (8 * (by2 f (p + 14 + by4 f (p + 10)))))) rfl (by omega)]
        show pl _ _ _ (_, [(0, .ref ac), (1, .ref a), (2, .int (nI p)), (3, .ref z0), (4, .int (nI i))], [.int (nI (p + 14 + by4 f (p + 10) + 2 + 8 * (by2 f (p + 14 + by4 f (p + 10))))), .ref ac], M1) _
        refine pl_call (a := [.ref ac, .int (nI (p + 14 + by4 f (p + 10) + 2 + 8 * (by2 f (p + 14 + by4 f (p + 10)))))]) (rest := []) rfl rfl rfl (dk_codeAttributesHold (f := f) (n := n) (N := N) (q := q) (E := E) (ac := ac) (c := c) (b := b) (da := da) (vd := vd) (fr := fr) (mr := mr) (fa := fa) (ic := ic) (mj := mj) (na := na) (pa := pa) (mi := mi) (ru := ru) (wa := wa) (k1 := k1) (k2 := k2) (k3 := k3) (k4 := k4) (k5 := k5) (k6 := k6) (k7 := k7) (s := s) (p1 := (p + 14 + by4 f (p + 10) + 2 + 8 * (by2 f (p + 14 + by4 f (p + 10))))) (e := e) h5 h6 h7 h8 h9 (hn) (hmj) (by omega) (by omega) (hcd.2.2) (hV12)) (fun v15 M16 q17 => ?_)
        rcases q17 with q17 | q17
        · skip
          obtain ⟨e918, q131_s, rfl, h19, f20⟩ := q17
          have h22 := (f20.1 b (nin2 (ob_ne h6 h5 (by decide)) (ob_ne h6 h9 (by decide)))).trans h6
          have h23 := (f20.1 da (nin2 (Ne.symm (ob_ar h5 h7)) (Ne.symm (ob_ar h9 h7)))).trans h7
          have h24 := (f20.1 c (nin2 (ob_ne h8 h5 (by decide)) (ob_ne h8 h9 (by decide)))).trans h8
          have h25 := (f20.1 a (nin2 (ob_ne h2 h5 (by decide)) (ob_ne h2 h9 (by decide)))).trans h2
          have h26 := (f20.1 z0 (nin2 (show z0 ≠ ac by omega) (show z0 ≠ vd by omega))).trans h10
          have h27 := (f20.1 (z0 + 1) (nin2 (show (z0 + 1) ≠ ac by omega) (show (z0 + 1) ≠ vd by omega))).trans h11
          have hF28 := hF13.trf f20 (by intro z hz; simp only [List.mem_cons, List.not_mem_nil, or_false] at hz ⊢; try omega)
          have tp29 : M16.2.1 = z0 + 2 := by rw [f20.2]; exact tp14
          have hV30 := hV12.keep f20.gm (n7c h5 (by decide) (n7c h9 (by decide) (n7nil)))
          show pl _ _ _ (134, [(0, .ref ac), (1, .ref a), (2, .int (nI p)), (3, .ref z0), (4, .int (nI i))], [.int 0], M16) _
          exact ps_ret rfl rfl (Or.inl ⟨e918, by
              unfold cdS
              rw [if_neg hj41, if_neg hj42, if_neg (by rw [← hr9, show by2 f (p + 14 + by4 f (p + 10)) - i = 0 by omega]; exact Nat.one_ne_zero)]
              exact q131_s, rfl, h19, hF28, by rw [tp0]; exact tp29⟩)
        · skip
          obtain ⟨s'31, q131_s, q131_l, rfl, h32, h33, f34⟩ := q17
          have h36 := (f34.1 b (nin2 (ob_ne h6 h5 (by decide)) (ob_ne h6 h9 (by decide)))).trans h6
          have h37 := (f34.1 da (nin2 (Ne.symm (ob_ar h5 h7)) (Ne.symm (ob_ar h9 h7)))).trans h7
          have h38 := (f34.1 c (nin2 (ob_ne h8 h5 (by decide)) (ob_ne h8 h9 (by decide)))).trans h8
          have h39 := (f34.1 a (nin2 (ob_ne h2 h5 (by decide)) (ob_ne h2 h9 (by decide)))).trans h2
          have h40 := (f34.1 z0 (nin2 (show z0 ≠ ac by omega) (show z0 ≠ vd by omega))).trans h10
          have h41 := (f34.1 (z0 + 1) (nin2 (show (z0 + 1) ≠ ac by omega) (show (z0 + 1) ≠ vd by omega))).trans h11
          have hF42 := hF13.trf f34 (by intro z hz; simp only [List.mem_cons, List.not_mem_nil, or_false] at hz ⊢; try omega)
          have tp43 : M16.2.1 = z0 + 2 := by rw [f34.2]; exact tp14
          have hV44 := hV12.keep f34.gm (n7c h5 (by decide) (n7c h9 (by decide) (n7nil)))
          show pl _ _ _ (134, [(0, .ref ac), (1, .ref a), (2, .int (nI p)), (3, .ref z0), (4, .int (nI i))], [.int 1], M16) _
          exact ps_ret rfl rfl (Or.inr ⟨s'31, by
              unfold cdS
              rw [if_neg hj41, if_neg hj42, if_neg (by rw [← hr9, show by2 f (p + 14 + by4 f (p + 10)) - i = 0 by omega]; exact Nat.one_ne_zero)]
              exact q131_s, q131_l, rfl, h32, h33, by rw [tp0]; exact h39, by rw [tp0]; exact h40, by rw [tp0]; exact h41, hF42, by rw [tp0]; exact tp43⟩)
      · have c_75 : ¬ ((nI (by2 f (p + 14 + by4 f (p + 10)))) ≤ (nI i)) := of_decide_eq_false c_75
        have n_75 : ¬ (by2 f (p + 14 + by4 f (p + 10)) ≤ i) := fun h9 => c_75 ((le_nI (p := by2 f (p + 14 + by4 f (p + 10))) (n := i) (Nat.lt_trans (by2_lt _ _) (by decide)) (by omega)).mpr h9)
        refine ps_st (S' := (79, [(0, .ref ac), (1, .ref a), (2, .int (nI p)), (3, .ref z0), (4, .int (nI i))], [.ref ac], M1)) rfl rfl rfl ?_
        refine ps_st (S' := (80, [(0, .ref ac), (1, .ref a), (2, .int (nI p)), (3, .ref z0), (4, .int (nI i))], [.ref z0, .ref ac], M1)) rfl rfl rfl ?_
        refine ps_st (S' := (81, [(0, .ref ac), (1, .ref a), (2, .int (nI p)), (3, .ref z0), (4, .int (nI i))], [.ref z0, .ref z0, .ref ac], M1)) rfl rfl rfl ?_
        refine ps_get (S' := (84, [(0, .ref ac), (1, .ref a), (2, .int (nI p)), (3, .ref z0), (4, .int (nI i))], [.int (nI (p + 14 + by4 f (p + 10) + 2)), .ref z0, .ref ac], M1)) rfl hl_z0 rfl rfl ?_
        refine ps_st (S' := (86, [(0, .ref ac), (1, .ref a), (2, .int (nI p)), (3, .ref z0), (4, .int (nI i))], [.int 8, .int (nI (p + 14 + by4 f (p + 10) + 2)), .ref z0, .ref ac], M1)) rfl rfl rfl ?_
        refine ps_st (S' := (88, [(0, .ref ac), (1, .ref a), (2, .int (nI p)), (3, .ref z0), (4, .int (nI i))], [.int (nI i), .int 8, .int (nI (p + 14 + by4 f (p + 10) + 2)), .ref z0, .ref ac], M1)) rfl rfl rfl ?_
        refine ps_st (S' := (89, [(0, .ref ac), (1, .ref a), (2, .int (nI p)), (3, .ref z0), (4, .int (nI i))], [.int (8 * (nI i)), .int (nI (p + 14 + by4 f (p + 10) + 2)), .ref z0, .ref ac], M1)) rfl rfl rfl ?_
        rw [nI_mul1 (p := 8) (k := i) (x := 8) (y := (nI i)) rfl rfl (by omega)]
        show pl _ _ _ (_, [(0, .ref ac), (1, .ref a), (2, .int (nI p)), (3, .ref z0), (4, .int (nI i))], [.int (nI (8 * i)), .int (nI (p + 14 + by4 f (p + 10) + 2)), .ref z0, .ref ac], M1) _
        refine ps_st (S' := (90, [(0, .ref ac), (1, .ref a), (2, .int (nI p)), (3, .ref z0), (4, .int (nI i))], [.int ((nI (p + 14 + by4 f (p + 10) + 2)) + (nI (8 * i))), .ref z0, .ref ac], M1)) rfl rfl rfl ?_
        rw [nI_add1 (p := p + 14 + by4 f (p + 10) + 2) (k := 8 * i) (x := (nI (8 * i))) rfl (by omega)]
        show pl _ _ _ (_, [(0, .ref ac), (1, .ref a), (2, .int (nI p)), (3, .ref z0), (4, .int (nI i))], [.int (nI (p + 14 + by4 f (p + 10) + 2 + 8 * i)), .ref z0, .ref ac], M1) _
        refine pl_call (a := [.ref ac, .ref z0, .int (nI (p + 14 + by4 f (p + 10) + 2 + 8 * i))]) (rest := []) rfl rfl rfl (dk_rowHolds (f := f) (n := n) (N := N) (q := q) (E := E) (ac := ac) (c := c) (b := b) (da := da) (vd := vd) (fr := fr) (mr := mr) (fa := fa) (ic := ic) (mj := mj) (na := na) (pa := pa) (mi := mi) (ru := ru) (wa := wa) (s1 := (nI s)) (k1 := k1) (k2 := k2) (k3 := k3) (k4 := k4) (k5 := k5) (k6 := k6) (k7 := k7) (cd0 := z0) (p := (p + 14 + by4 f (p + 10) + 2 + 8 * i)) (len := (by4 f (p + 10))) (y1 := (nI (by2 f (p + 6)))) (y2 := (nI (by2 f (p + 8)))) (y3 := (nI (p + 14 + by4 f (p + 10) + 2))) (y4 := (nI (by2 f (p + 14 + by4 f (p + 10))))) (y6 := (nI mj)) (y8 := 0) (v5 := .ref q) (v7 := .ref (z0 + 1)) (v9 := .null) (v10 := .null) hl_ac hl_b hl_da hl_z0 (hn) (by omega) (by omega) (hV1)) (fun v45 M46 q47 => ?_)
        obtain ⟨rfl, rfl⟩ := q47
        show pl _ _ _ (93, [(0, .ref ac), (1, .ref a), (2, .int (nI p)), (3, .ref z0), (4, .int (nI i))], [.int (nI (rwN f E (by4 f (p + 10)) (p + 14 + by4 f (p + 10) + 2 + 8 * i)))], M1) _
        refine ps_if (S1 := (107, [(0, .ref ac), (1, .ref a), (2, .int (nI p)), (3, .ref z0), (4, .int (nI i))], [], M1)) (S2 := (96, [(0, .ref ac), (1, .ref a), (2, .int (nI p)), (3, .ref z0), (4, .int (nI i))], [], M1)) rfl rfl rfl (fun c_93 => ?_) (fun c_93 => ?_)
        · have c_93 : ¬ (nI (rwN f E (by4 f (p + 10)) (p + 14 + by4 f (p + 10) + 2 + 8 * i))) = 0 := of_decide_eq_true c_93
          have n_93 : ¬ (rwN f E (by4 f (p + 10)) (p + 14 + by4 f (p + 10) + 2 + 8 * i) = 0) := fun h9 => c_93 ((eq_nI (p := rwN f E (by4 f (p + 10)) (p + 14 + by4 f (p + 10) + 2 + 8 * i)) (n := 0) (Nat.lt_trans (le1_rw _ _ _ _) (by decide)) (by decide)).mpr h9)
          refine ps_st (S' := (110, [(4, .int ((nI i) + 1)), (0, .ref ac), (1, .ref a), (2, .int (nI p)), (3, .ref z0)], [], M1)) rfl rfl rfl ?_
          rw [nI_add1 (p := i) (k := 1) (x := 1) rfl (by omega)]
          show pl _ _ _ (_, [(4, .int (nI (i + 1))), (0, .ref ac), (1, .ref a), (2, .int (nI p)), (3, .ref z0)], [], M1) _
          refine ps_st (S' := (69, [(0, .ref ac), (1, .ref a), (2, .int (nI p)), (3, .ref z0), (4, .int (nI (i + 1)))], [], M1)) rfl rfl rfl ?_
          exact ih (i + 1) M1 hl_ac hl_b hl_da hl_c hl_vd hl_a hl_z0 hl_z0___1 hV1 hF1 (tp1) (by omega) (hj41) (hj42) (by
              rw [← hr9, rwA_st (i := i) (by omega), if_neg (by omega)])
        · have c_93 : ¬ (¬ (nI (rwN f E (by4 f (p + 10)) (p + 14 + by4 f (p + 10) + 2 + 8 * i))) = 0) := of_decide_eq_false c_93
          have n_93 : rwN f E (by4 f (p + 10)) (p + 14 + by4 f (p + 10) + 2 + 8 * i) = 0 := (eq_nI (p := rwN f E (by4 f (p + 10)) (p + 14 + by4 f (p + 10) + 2 + 8 * i)) (n := 0) (Nat.lt_trans (le1_rw _ _ _ _) (by decide)) (by decide)).mp (Decidable.not_not.mp c_93)
          refine ps_st (S' := (97, [(0, .ref ac), (1, .ref a), (2, .int (nI p)), (3, .ref z0), (4, .int (nI i))], [.ref ac], M1)) rfl rfl rfl ?_
          refine ps_get (S' := (100, [(0, .ref ac), (1, .ref a), (2, .int (nI p)), (3, .ref z0), (4, .int (nI i))], [.ref vd], M1)) rfl hl_ac rfl rfl ?_
          refine ps_st (S' := (102, [(0, .ref ac), (1, .ref a), (2, .int (nI p)), (3, .ref z0), (4, .int (nI i))], [.int 43, .ref vd], M1)) rfl rfl rfl ?_
          refine ps_st (S' := (103, [(0, .ref ac), (1, .ref a), (2, .int (nI p)), (3, .ref z0), (4, .int (nI i))], [.int (nI p), .int 43, .ref vd], M1)) rfl rfl rfl ?_
          refine pl_call (a := [.ref vd, .int 43, .int (nI p)]) (rest := []) rfl rfl rfl (dk_wrong (vd := vd) (ru := ru) (wa := wa) (x1 := 43) (x2 := (nI p)) hl_vd) (fun v48 M49 q50 => ?_)
          obtain ⟨rfl, h51, f52⟩ := q50
          have h54 := (f52.1 ac (nin1 (ob_ne hl_ac hl_vd (by decide)))).trans hl_ac
          have h55 := (f52.1 b (nin1 (ob_ne hl_b hl_vd (by decide)))).trans hl_b
          have h56 := (f52.1 da (nin1 (Ne.symm (ob_ar hl_vd hl_da)))).trans hl_da
          have h57 := (f52.1 c (nin1 (ob_ne hl_c hl_vd (by decide)))).trans hl_c
          have h58 := (f52.1 a (nin1 (ob_ne hl_a hl_vd (by decide)))).trans hl_a
          have h59 := (f52.1 z0 (nin1 (show z0 ≠ vd by omega))).trans hl_z0
          have h60 := (f52.1 (z0 + 1) (nin1 (show (z0 + 1) ≠ vd by omega))).trans hl_z0___1
          have hF61 := hF1.trf f52 (by intro z hz; simp only [List.mem_cons, List.not_mem_nil, or_false] at hz ⊢; try omega)
          have tp62 : M49.2.1 = z0 + 2 := by rw [f52.2]; exact tp1
          have hV63 := hV1.keep f52.gm (n7c hl_vd (by decide) (n7nil))
          show pl _ _ _ (106, [(0, .ref ac), (1, .ref a), (2, .int (nI p)), (3, .ref z0), (4, .int (nI i))], [.int 0], M49) _
          exact ps_ret rfl rfl (Or.inl ⟨(43, p), by
              unfold cdS
              rw [if_neg hj41, if_neg hj42, if_pos (by rw [← hr9, rwA_st (i := i) (by omega), if_pos (by omega)])], rfl, h51, hF61, by rw [tp0]; exact tp62⟩)
  refine ps_newz rfl tp0 (fun M64 h65 f66 tp67 => ?_)
  have h68 := (f66 ac (show ac ≠ z0 by omega)).trans h_ac
  have h69 := (f66 b (show b ≠ z0 by omega)).trans h_b
  have h70 := (f66 da (show da ≠ z0 by omega)).trans h_da
  have h71 := (f66 c (show c ≠ z0 by omega)).trans h_c
  have h72 := (f66 vd (show vd ≠ z0 by omega)).trans h_vd
  have h73 := (f66 a (show a ≠ z0 by omega)).trans h_a
  have hV74 := hV.new tp0 f66 tp67
  have hF75 := hF.up (Or.inr (by omega)) f66 (by omega)
  show pl _ _ _ (3, [(0, .ref ac), (1, .ref a), (2, .int (nI p))], [.ref z0], M64) _
  refine ps_st (S' := (4, [(0, .ref ac), (1, .ref a), (2, .int (nI p))], [.ref z0, .ref z0], M64)) rfl rfl rfl ?_
  refine ps_st (S' := (5, [(0, .ref ac), (1, .ref a), (2, .int (nI p))], [.ref ac, .ref z0, .ref z0], M64)) rfl rfl rfl ?_
  refine ps_get (S' := (8, [(0, .ref ac), (1, .ref a), (2, .int (nI p))], [.ref c, .ref z0, .ref z0], M64)) rfl h68 rfl rfl ?_
  refine ps_st (S' := (9, [(0, .ref ac), (1, .ref a), (2, .int (nI p))], [.int (nI p), .ref c, .ref z0, .ref z0], M64)) rfl rfl rfl ?_
  refine ps_st (S' := (11, [(0, .ref ac), (1, .ref a), (2, .int (nI p))], [.int 6, .int (nI p), .ref c, .ref z0, .ref z0], M64)) rfl rfl rfl ?_
  refine ps_st (S' := (12, [(0, .ref ac), (1, .ref a), (2, .int (nI p))], [.int ((nI p) + 6), .ref c, .ref z0, .ref z0], M64)) rfl rfl rfl ?_
  rw [nI_add1 (p := p) (k := 6) (x := 6) rfl (by omega)]
  show pl _ _ _ (_, [(0, .ref ac), (1, .ref a), (2, .int (nI p))], [.int (nI (p + 6)), .ref c, .ref z0, .ref z0], M64) _
  refine pl_call (a := [.ref z0, .ref c, .int (nI (p + 6))]) (rest := [.ref z0]) rfl rfl rfl (dk_code7 (f := f) (n := n) (q := q) (c := c) (b := b) (da := da) (fr := fr) (mr := mr) (fa := fa) (ic := ic) (mj := mj) (na := na) (pa := pa) (cd0 := z0) (p0 := (p + 6)) (mi := mi) (k1 := k1) (k2 := k2) (k3 := k3) (k4 := k4) (k5 := k5) (k6 := k6) (k7 := k7) h65 h71 h69 h70 (hn) (show p + 14 + by4 f (p + 10) + 2 ≤ n by omega) (by omega) (by omega) (by omega) (by omega)) (fun v76 M77 q78 => ?_)
  obtain ⟨rfl, h79, h80, f81, tp82⟩ := q78
  rw [tp67] at h79 h80 tp82
  have h83 := (f81.1 ac (by omega) (nin1 (show ac ≠ z0 by omega))).trans h68
  have h84 := (f81.1 b (by omega) (nin1 (show b ≠ z0 by omega))).trans h69
  have h85 := (f81.1 da (by omega) (nin1 (show da ≠ z0 by omega))).trans h70
  have h86 := (f81.1 c (by omega) (nin1 (show c ≠ z0 by omega))).trans h71
  have h87 := (f81.1 vd (by omega) (nin1 (show vd ≠ z0 by omega))).trans h72
  have h88 := (f81.1 a (by omega) (nin1 (show a ≠ z0 by omega))).trans h73
  have hF89 := hF75.tr f81 (by intro z hz; simp only [List.mem_cons, List.not_mem_nil, or_false] at hz ⊢; try omega)
  have hV90 := hV74.keep f81 (n7c h65 (by decide) (n7nil))
  show pl _ _ _ (15, [(0, .ref ac), (1, .ref a), (2, .int (nI p))], [.ref z0], M77) _
  refine ps_st (S' := (16, [(3, .ref z0), (0, .ref ac), (1, .ref a), (2, .int (nI p))], [], M77)) rfl rfl rfl ?_
  refine ps_st (S' := (17, [(3, .ref z0), (0, .ref ac), (1, .ref a), (2, .int (nI p))], [.ref z0], M77)) rfl rfl rfl ?_
  refine ps_get (S' := (20, [(3, .ref z0), (0, .ref ac), (1, .ref a), (2, .int (nI p))], [.int (nI (by4 f (p + 10)))], M77)) rfl h79 rfl rfl ?_
  refine ps_st (S' := (21, [(3, .ref z0), (0, .ref ac), (1, .ref a), (2, .int (nI p))], [.int 1, .int (nI (by4 f (p + 10)))], M77)) rfl rfl rfl ?_
  refine ps_if2 (S1 := (33, [(0, .ref ac), (2, .int (nI p))], [], M77)) (S2 := (24, [(3, .ref z0), (0, .ref ac), (1, .ref a), (2, .int (nI p))], [], M77)) rfl rfl rfl (fun c_21 => ?_) (fun c_21 => ?_)
  · have c_21 : (nI (by4 f (p + 10))) < 1 := of_decide_eq_true c_21
    have n_21 : by4 f (p + 10) < 1 := (lt_nI (p := by4 f (p + 10)) (n := 1) (by omega) (by decide)).mp c_21
    refine ps_st (S' := (34, [(0, .ref ac), (2, .int (nI p))], [.ref ac], M77)) rfl rfl rfl ?_
    refine ps_get (S' := (37, [(0, .ref ac), (2, .int (nI p))], [.ref vd], M77)) rfl h83 rfl rfl ?_
    refine ps_st (S' := (39, [(0, .ref ac), (2, .int (nI p))], [.int 41, .ref vd], M77)) rfl rfl rfl ?_
    refine ps_st (S' := (40, [(0, .ref ac), (2, .int (nI p))], [.int (nI p), .int 41, .ref vd], M77)) rfl rfl rfl ?_
    refine pl_call (a := [.ref vd, .int 41, .int (nI p)]) (rest := []) rfl rfl rfl (dk_wrong (vd := vd) (ru := ru) (wa := wa) (x1 := 41) (x2 := (nI p)) h87) (fun v91 M92 q93 => ?_)
    obtain ⟨rfl, h94, f95⟩ := q93
    have h97 := (f95.1 ac (nin1 (ob_ne h83 h87 (by decide)))).trans h83
    have h98 := (f95.1 b (nin1 (ob_ne h84 h87 (by decide)))).trans h84
    have h99 := (f95.1 da (nin1 (Ne.symm (ob_ar h87 h85)))).trans h85
    have h100 := (f95.1 c (nin1 (ob_ne h86 h87 (by decide)))).trans h86
    have h101 := (f95.1 a (nin1 (ob_ne h88 h87 (by decide)))).trans h88
    have h102 := (f95.1 z0 (nin1 (show z0 ≠ vd by omega))).trans h79
    have h103 := (f95.1 (z0 + 1) (nin1 (show (z0 + 1) ≠ vd by omega))).trans h80
    have hF104 := hF89.trf f95 (by intro z hz; simp only [List.mem_cons, List.not_mem_nil, or_false] at hz ⊢; try omega)
    have tp105 : M92.2.1 = z0 + 2 := by rw [f95.2]; exact tp82
    have hV106 := hV90.keep f95.gm (n7c h87 (by decide) (n7nil))
    show pl _ _ _ (43, [(0, .ref ac), (2, .int (nI p))], [.int 0], M92) _
    exact ps_ret rfl rfl (Or.inl ⟨(41, p), by
        unfold cdS
        first | ((repeat first | rw [if_pos (by omega)] | rw [if_neg (by omega)]) <;> first | rfl | omega) | ((repeat' split) <;> first | rfl | (exfalso; omega) | omega), rfl, h94, hF104, by rw [tp0]; exact tp105⟩)
  · have c_21 : ¬ ((nI (by4 f (p + 10))) < 1) := of_decide_eq_false c_21
    have n_21 : ¬ (by4 f (p + 10) < 1) := fun h9 => c_21 ((lt_nI (p := by4 f (p + 10)) (n := 1) (by omega) (by decide)).mpr h9)
    refine ps_st (S' := (25, [(3, .ref z0), (0, .ref ac), (1, .ref a), (2, .int (nI p))], [.ref z0], M77)) rfl rfl rfl ?_
    refine ps_get (S' := (28, [(3, .ref z0), (0, .ref ac), (1, .ref a), (2, .int (nI p))], [.int (nI (by4 f (p + 10)))], M77)) rfl h79 rfl rfl ?_
    refine ps_st (S' := (30, [(3, .ref z0), (0, .ref ac), (1, .ref a), (2, .int (nI p))], [.int 65535, .int (nI (by4 f (p + 10)))], M77)) rfl rfl rfl ?_
    refine ps_if2 (S1 := (44, [(3, .ref z0), (0, .ref ac), (1, .ref a), (2, .int (nI p))], [], M77)) (S2 := (33, [(0, .ref ac), (2, .int (nI p))], [], M77)) rfl rfl rfl (fun c_30 => ?_) (fun c_30 => ?_)
    · have c_30 : (nI (by4 f (p + 10))) ≤ 65535 := of_decide_eq_true c_30
      have n_30 : by4 f (p + 10) ≤ 65535 := (le_nI (p := by4 f (p + 10)) (n := 65535) (by omega) (by decide)).mp c_30
      refine ps_st (S' := (45, [(3, .ref z0), (0, .ref ac), (1, .ref a), (2, .int (nI p))], [.ref z0], M77)) rfl rfl rfl ?_
      refine ps_get (S' := (48, [(3, .ref z0), (0, .ref ac), (1, .ref a), (2, .int (nI p))], [.int (nI (by2 f (p + 8)))], M77)) rfl h79 rfl rfl ?_
      refine ps_st (S' := (49, [(3, .ref z0), (0, .ref ac), (1, .ref a), (2, .int (nI p))], [.ref a, .int (nI (by2 f (p + 8)))], M77)) rfl rfl rfl ?_
      refine ps_get (S' := (52, [(3, .ref z0), (0, .ref ac), (1, .ref a), (2, .int (nI p))], [.int (nI w), .int (nI (by2 f (p + 8)))], M77)) rfl h88 rfl rfl ?_
      refine ps_if2 (S1 := (66, [(3, .ref z0), (0, .ref ac), (1, .ref a), (2, .int (nI p))], [], M77)) (S2 := (55, [(3, .ref z0), (0, .ref ac), (1, .ref a), (2, .int (nI p))], [], M77)) rfl rfl rfl (fun c_52 => ?_) (fun c_52 => ?_)
      · have c_52 : (nI w) ≤ (nI (by2 f (p + 8))) := of_decide_eq_true c_52
        have n_52 : w ≤ by2 f (p + 8) := (le_nI (p := w) (n := by2 f (p + 8)) (by omega) (Nat.lt_trans (by2_lt _ _) (by decide))).mp c_52
        refine ps_st (S' := (67, [(3, .ref z0), (0, .ref ac), (1, .ref a), (2, .int (nI p))], [.int 0], M77)) rfl rfl rfl ?_
        refine ps_st (S' := (69, [(0, .ref ac), (1, .ref a), (2, .int (nI p)), (3, .ref z0), (4, .int 0)], [], M77)) rfl rfl rfl ?_
        exact (LL kf) (0) M77 h83 h84 h85 h86 h87 h88 h79 h80 hV90 hF89 (tp82) (by omega) (by omega) (by omega) (rfl)
      · have c_52 : ¬ ((nI w) ≤ (nI (by2 f (p + 8)))) := of_decide_eq_false c_52
        have n_52 : ¬ (w ≤ by2 f (p + 8)) := fun h9 => c_52 ((le_nI (p := w) (n := by2 f (p + 8)) (by omega) (Nat.lt_trans (by2_lt _ _) (by decide))).mpr h9)
        refine ps_st (S' := (56, [(3, .ref z0), (0, .ref ac), (1, .ref a), (2, .int (nI p))], [.ref ac], M77)) rfl rfl rfl ?_
        refine ps_get (S' := (59, [(3, .ref z0), (0, .ref ac), (1, .ref a), (2, .int (nI p))], [.ref vd], M77)) rfl h83 rfl rfl ?_
        refine ps_st (S' := (61, [(3, .ref z0), (0, .ref ac), (1, .ref a), (2, .int (nI p))], [.int 42, .ref vd], M77)) rfl rfl rfl ?_
        refine ps_st (S' := (62, [(3, .ref z0), (0, .ref ac), (1, .ref a), (2, .int (nI p))], [.int (nI p), .int 42, .ref vd], M77)) rfl rfl rfl ?_
        refine pl_call (a := [.ref vd, .int 42, .int (nI p)]) (rest := []) rfl rfl rfl (dk_wrong (vd := vd) (ru := ru) (wa := wa) (x1 := 42) (x2 := (nI p)) h87) (fun v107 M108 q109 => ?_)
        obtain ⟨rfl, h110, f111⟩ := q109
        have h113 := (f111.1 ac (nin1 (ob_ne h83 h87 (by decide)))).trans h83
        have h114 := (f111.1 b (nin1 (ob_ne h84 h87 (by decide)))).trans h84
        have h115 := (f111.1 da (nin1 (Ne.symm (ob_ar h87 h85)))).trans h85
        have h116 := (f111.1 c (nin1 (ob_ne h86 h87 (by decide)))).trans h86
        have h117 := (f111.1 a (nin1 (ob_ne h88 h87 (by decide)))).trans h88
        have h118 := (f111.1 z0 (nin1 (show z0 ≠ vd by omega))).trans h79
        have h119 := (f111.1 (z0 + 1) (nin1 (show (z0 + 1) ≠ vd by omega))).trans h80
        have hF120 := hF89.trf f111 (by intro z hz; simp only [List.mem_cons, List.not_mem_nil, or_false] at hz ⊢; try omega)
        have tp121 : M108.2.1 = z0 + 2 := by rw [f111.2]; exact tp82
        have hV122 := hV90.keep f111.gm (n7c h87 (by decide) (n7nil))
        show pl _ _ _ (65, [(3, .ref z0), (0, .ref ac), (1, .ref a), (2, .int (nI p))], [.int 0], M108) _
        exact ps_ret rfl rfl (Or.inl ⟨(42, p), by
            unfold cdS
            first | ((repeat first | rw [if_pos (by omega)] | rw [if_neg (by omega)]) <;> first | rfl | omega) | ((repeat' split) <;> first | rfl | (exfalso; omega) | omega), rfl, h110, hF120, by rw [tp0]; exact tp121⟩)
    · have c_30 : ¬ ((nI (by4 f (p + 10))) ≤ 65535) := of_decide_eq_false c_30
      have n_30 : ¬ (by4 f (p + 10) ≤ 65535) := fun h9 => c_30 ((le_nI (p := by4 f (p + 10)) (n := 65535) (by omega) (by decide)).mpr h9)
      refine ps_st (S' := (34, [(0, .ref ac), (2, .int (nI p))], [.ref ac], M77)) rfl rfl rfl ?_
      refine ps_get (S' := (37, [(0, .ref ac), (2, .int (nI p))], [.ref vd], M77)) rfl h83 rfl rfl ?_
      refine ps_st (S' := (39, [(0, .ref ac), (2, .int (nI p))], [.int 41, .ref vd], M77)) rfl rfl rfl ?_
      refine ps_st (S' := (40, [(0, .ref ac), (2, .int (nI p))], [.int (nI p), .int 41, .ref vd], M77)) rfl rfl rfl ?_
      refine pl_call (a := [.ref vd, .int 41, .int (nI p)]) (rest := []) rfl rfl rfl (dk_wrong (vd := vd) (ru := ru) (wa := wa) (x1 := 41) (x2 := (nI p)) h87) (fun v123 M124 q125 => ?_)
      obtain ⟨rfl, h126, f127⟩ := q125
      have h129 := (f127.1 ac (nin1 (ob_ne h83 h87 (by decide)))).trans h83
      have h130 := (f127.1 b (nin1 (ob_ne h84 h87 (by decide)))).trans h84
      have h131 := (f127.1 da (nin1 (Ne.symm (ob_ar h87 h85)))).trans h85
      have h132 := (f127.1 c (nin1 (ob_ne h86 h87 (by decide)))).trans h86
      have h133 := (f127.1 a (nin1 (ob_ne h88 h87 (by decide)))).trans h88
      have h134 := (f127.1 z0 (nin1 (show z0 ≠ vd by omega))).trans h79
      have h135 := (f127.1 (z0 + 1) (nin1 (show (z0 + 1) ≠ vd by omega))).trans h80
      have hF136 := hF89.trf f127 (by intro z hz; simp only [List.mem_cons, List.not_mem_nil, or_false] at hz ⊢; try omega)
      have tp137 : M124.2.1 = z0 + 2 := by rw [f127.2]; exact tp82
      have hV138 := hV90.keep f127.gm (n7c h87 (by decide) (n7nil))
      show pl _ _ _ (43, [(0, .ref ac), (2, .int (nI p))], [.int 0], M124) _
      exact ps_ret rfl rfl (Or.inl ⟨(41, p), by
          unfold cdS
          first | ((repeat first | rw [if_pos (by omega)] | rw [if_neg (by omega)]) <;> first | rfl | omega) | ((repeat' split) <;> first | rfl | (exfalso; omega) | omega), rfl, h126, hF136, by rw [tp0]; exact tp137⟩)
set_option maxHeartbeats 1000000 in
theorem dk_ofField7 {g : xe_G} {M : mi_H} {f : Nat → Int32} {n N q : Nat} {E : List (Nat × Nat)} {ac c b da vd fr mr fa ic mj na pa : Nat} {mi ru wa s1 k1 k2 k3 k4 k5 k6 k7 : Int32} {a b0 e0 : Nat} {kn ap ex : Int32} {cd : Value} (h_ac : M.1 ac = some (ob 0 [.ref c, .ref b, .ref q, .ref vd, .int s1])) (h_b : M.1 b = some (ob 1 [.ref da])) (h_da : M.1 da = some (ar .byte n f)) (h_c : M.1 c = some (ob 3 [.ref b, .ref q, .int mi, .int (nI mj), .int (nI fa), .int (nI ic), .ref fr, .ref mr, .int (nI na), .int (nI pa), .int k1, .int k2, .int k3, .int k4, .int k5, .int k6, .int k7])) (h_vd : M.1 vd = some (ob 10 [.int ru, .int wa])) (h_a : M.1 a = some (ob 6 [.int (nI b0), .int (nI (by2 f b0)), .int (nI (by2 f (b0 + 2))), .int (nI (by2 f (b0 + 4))), .int (nI (by2 f (b0 + 6))), .int (nI (b0 + 8)), .int kn, .int 0, .int ap, .int ex, cd])) (hn : n ≤ 65540) (hmj : mj < 65536) (hb1 : b0 + 8 ≤ n) (hat : s_atts f n (by2 f (b0 + 6)) (b0 + 8) = .inr e0) (hV : PV g f n N E q M) : pt (mT g) 39 [.ref ac, .ref a] M (fun v M' => (∃ (s2 : Int32) (K : Nat × Nat), (faS f n E (by2 f b0) (tX f n E (by2 f (b0 + 4))) (by2 f (b0 + 6)) (b0 + 8) 0 = none) ∧ (faU f n E (by2 f b0) (by2 f (b0 + 6)) (b0 + 8) (0, 0) = K) ∧ v = some (.int 1) ∧ M'.1 vd = some (ob 10 [.int ru, .int wa]) ∧ M'.1 ac = some (ob 0 [.ref c, .ref b, .ref q, .ref vd, .int s2]) ∧ M'.1 a = some (ob 6 [.int (nI b0), .int (nI (by2 f b0)), .int (nI (by2 f (b0 + 2))), .int (nI (by2 f (b0 + 4))), .int (nI (by2 f (b0 + 6))), .int (nI (b0 + 8)), .int (nI K.1), .int (nI K.2), .int ap, .int ex, cd]) ∧ fm [ac, vd, a] M M') ∨ (∃ (e9 : Nat × Nat), (faS f n E (by2 f b0) (tX f n E (by2 f (b0 + 4))) (by2 f (b0 + 6)) (b0 + 8) 0 = some e9) ∧ v = some (.int 0) ∧ M'.1 vd = some (ob 10 [.int (nI e9.1), .int (nI e9.2)]) ∧ fm [ac, vd, a] M M')) := by
  refine pt_in (b := mb_39 g) rfl (fun kf => ?_)
  show pl (mT g) kf (mb_39 g).2 (0, [(0, .ref ac), (1, .ref a)], [], M) _
  have hF : fm [ac, vd, a] M M := fm.rf
  have LL : ∀ (kf : Nat), (∀ (i p s2 : Nat) (K : Nat × Nat) (kn2 : Int32) (M1 : mi_H), (M1.1 ac = some (ob 0 [.ref c, .ref b, .ref q, .ref vd, .int (nI s2)])) → (M1.1 b = some (ob 1 [.ref da])) → (M1.1 da = some (ar .byte n f)) → (M1.1 c = some (ob 3 [.ref b, .ref q, .int mi, .int (nI mj), .int (nI fa), .int (nI ic), .ref fr, .ref mr, .int (nI na), .int (nI pa), .int k1, .int k2, .int k3, .int k4, .int k5, .int k6, .int k7])) → (M1.1 vd = some (ob 10 [.int ru, .int wa])) → (M1.1 a = some (ob 6 [.int (nI b0), .int (nI (by2 f b0)), .int (nI (by2 f (b0 + 2))), .int (nI (by2 f (b0 + 4))), .int (nI (by2 f (b0 + 6))), .int (nI (b0 + 8)), .int kn2, .int (nI K.2), .int ap, .int ex, cd])) → (PV g f n N E q M1) → (fm [ac, vd, a] M M1) → (i ≤ by2 f (b0 + 6)) → (s2 < 2048) → (s_atts f n (by2 f (b0 + 6) - i) p = .inr e0) → (faS f n E (by2 f b0) (tX f n E (by2 f (b0 + 4))) (by2 f (b0 + 6) - i) p s2 = faS f n E (by2 f b0) (tX f n E (by2 f (b0 + 4))) (by2 f (b0 + 6)) (b0 + 8) 0) → (faU f n E (by2 f b0) (by2 f (b0 + 6) - i) p K = faU f n E (by2 f b0) (by2 f (b0 + 6)) (b0 + 8) (0, 0)) → (popN s2 = K.1) →  pl (mT g) kf (mb_39 g).2 (12, [(0, .ref ac), (1, .ref a), (2, .int (nI p)), (3, .int (nI i))], [], M1) (fun v M' => (∃ (s2 : Int32) (K : Nat × Nat), (faS f n E (by2 f b0) (tX f n E (by2 f (b0 + 4))) (by2 f (b0 + 6)) (b0 + 8) 0 = none) ∧ (faU f n E (by2 f b0) (by2 f (b0 + 6)) (b0 + 8) (0, 0) = K) ∧ v = some (.int 1) ∧ M'.1 vd = some (ob 10 [.int ru, .int wa]) ∧ M'.1 ac = some (ob 0 [.ref c, .ref b, .ref q, .ref vd, .int s2]) ∧ M'.1 a = some (ob 6 [.int (nI b0), .int (nI (by2 f b0)), .int (nI (by2 f (b0 + 2))), .int (nI (by2 f (b0 + 4))), .int (nI (by2 f (b0 + 6))), .int (nI (b0 + 8)), .int (nI K.1), .int (nI K.2), .int ap, .int ex, cd]) ∧ fm [ac, vd, a] M M') ∨ (∃ (e9 : Nat × Nat), (faS f n E (by2 f b0) (tX f n E (by2 f (b0 + 4))) (by2 f (b0 + 6)) (b0 + 8) 0 = some e9) ∧ v = some (.int 0) ∧ M'.1 vd = some (ob 10 [.int (nI e9.1), .int (nI e9.2)]) ∧ fm [ac, vd, a] M M'))) := by
    intro kf
    induction kf with
    | zero => exact (by intros; exact pl_0)
    | succ kf ih =>
      intro i p s2 K kn2 M1 hl_ac hl_b hl_da hl_c hl_vd hl_a hV1 hF1 hi hl ha hs9 hu hpc
      have hu9 := by2_lt f (b0 + 6)
      refine ps_st1 (S' := (13, [(0, .ref ac), (1, .ref a), (2, .int (nI p)), (3, .int (nI i))], [.int (nI i)], M1)) rfl rfl rfl ?_
      refine ps_st (S' := (14, [(0, .ref ac), (1, .ref a), (2, .int (nI p)), (3, .int (nI i))], [.ref a, .int (nI i)], M1)) rfl rfl rfl ?_
      refine ps_get (S' := (17, [(0, .ref ac), (1, .ref a), (2, .int (nI p)), (3, .int (nI i))], [.int (nI (by2 f (b0 + 6))), .int (nI i)], M1)) rfl hl_a rfl rfl ?_
      refine ps_if2 (S1 := (173, [(0, .ref ac), (1, .ref a), (2, .int (nI p)), (3, .int (nI i))], [], M1)) (S2 := (20, [(0, .ref ac), (1, .ref a), (2, .int (nI p)), (3, .int (nI i))], [], M1)) rfl rfl rfl (fun c_17 => ?_) (fun c_17 => ?_)
      · have c_17 : (nI (by2 f (b0 + 6))) ≤ (nI i) := of_decide_eq_true c_17
        have n_17 : by2 f (b0 + 6) ≤ i := (le_nI (p := by2 f (b0 + 6)) (n := i) (Nat.lt_trans (by2_lt _ _) (by decide)) (by omega)).mp c_17
        refine ps_st (S' := (174, [(0, .ref ac), (1, .ref a), (2, .int (nI p)), (3, .int (nI i))], [.ref a], M1)) rfl rfl rfl ?_
        refine ps_st (S' := (175, [(0, .ref ac), (1, .ref a), (2, .int (nI p)), (3, .int (nI i))], [.ref ac, .ref a], M1)) rfl rfl rfl ?_
        refine ps_get (S' := (178, [(0, .ref ac), (1, .ref a), (2, .int (nI p)), (3, .int (nI i))], [.int (nI s2), .ref a], M1)) rfl hl_ac rfl rfl ?_
        refine pl_call (a := [.int (nI s2)]) (rest := [.ref a]) rfl rfl rfl (dk_bitCountN (y := s2) (by omega)) (fun v1 M2 q3 => ?_)
        obtain ⟨rfl, rfl⟩ := q3
        show pl _ _ _ (181, [(0, .ref ac), (1, .ref a), (2, .int (nI p)), (3, .int (nI i))], [.int (nI (popN s2)), .ref a], M1) _
        refine ps_put (l' := [.int (nI b0), .int (nI (by2 f b0)), .int (nI (by2 f (b0 + 2))), .int (nI (by2 f (b0 + 4))), .int (nI (by2 f (b0 + 6))), .int (nI (b0 + 8)), .int (nI (popN s2)), .int (nI K.2), .int ap, .int ex, cd]) rfl hl_a rfl rfl (fun M4 h5 f6 z7 => ?_)
        have h8 := (f6 ac (ob_ne hl_ac hl_a (by decide))).trans hl_ac
        have h9 := (f6 b (ob_ne hl_b hl_a (by decide))).trans hl_b
        have h10 := (f6 da (Ne.symm (ob_ar hl_a hl_da))).trans hl_da
        have h11 := (f6 c (ob_ne hl_c hl_a (by decide))).trans hl_c
        have h12 := (f6 vd (ob_ne hl_vd hl_a (by decide))).trans hl_vd
        have hV13 := hV1.put hl_a (by decide) f6 z7
        have hF14 := hF1.up (by simp) f6 z7
        show pl _ _ _ (184, [(0, .ref ac), (1, .ref a), (2, .int (nI p)), (3, .int (nI i))], [], M4) _
        refine ps_st (S' := (185, [(0, .ref ac), (1, .ref a), (2, .int (nI p)), (3, .int (nI i))], [.int 1], M4)) rfl rfl rfl ?_
        exact ps_ret rfl rfl (Or.inl ⟨_, K, by rw [← hs9, show by2 f (b0 + 6) - i = 0 by omega]; rfl, by rw [← hu, show by2 f (b0 + 6) - i = 0 by omega]; rfl, rfl, h12, h8, by rw [← hpc]; exact h5, hF14⟩)
      · have c_17 : ¬ ((nI (by2 f (b0 + 6))) ≤ (nI i)) := of_decide_eq_false c_17
        have n_17 : ¬ (by2 f (b0 + 6) ≤ i) := fun h9 => c_17 ((le_nI (p := by2 f (b0 + 6)) (n := i) (Nat.lt_trans (by2_lt _ _) (by decide)) (by omega)).mpr h9)
        obtain ⟨hq5, hq6, hq7⟩ := s_atts_in (i := i) (p := p) ha (by omega)
        refine ps_st (S' := (21, [(0, .ref ac), (1, .ref a), (2, .int (nI p)), (3, .int (nI i))], [.ref ac], M1)) rfl rfl rfl ?_
        refine ps_get (S' := (24, [(0, .ref ac), (1, .ref a), (2, .int (nI p)), (3, .int (nI i))], [.ref q], M1)) rfl hl_ac rfl rfl ?_
        refine ps_st (S' := (25, [(0, .ref ac), (1, .ref a), (2, .int (nI p)), (3, .int (nI i))], [.ref ac, .ref q], M1)) rfl rfl rfl ?_
        refine ps_get (S' := (28, [(0, .ref ac), (1, .ref a), (2, .int (nI p)), (3, .int (nI i))], [.ref b, .ref q], M1)) rfl hl_ac rfl rfl ?_
        refine ps_st (S' := (29, [(0, .ref ac), (1, .ref a), (2, .int (nI p)), (3, .int (nI i))], [.int (nI p), .ref b, .ref q], M1)) rfl rfl rfl ?_
        refine pl_call (a := [.ref b, .int (nI p)]) (rest := [.ref q]) rfl rfl rfl (dk_u2 (f := f) (n := n) (b := b) (da := da) (p := p) hl_b hl_da (hn) (by omega)) (fun v15 M16 q17 => ?_)
        obtain ⟨rfl, rfl⟩ := q17
        show pl _ _ _ (32, [(0, .ref ac), (1, .ref a), (2, .int (nI p)), (3, .int (nI i))], [.int (nI (by2 f p)), .ref q], M1) _
        have hu_29 := by2_lt f p
        refine ps_st (S' := (34, [(0, .ref ac), (1, .ref a), (2, .int (nI p)), (3, .int (nI i))], [.ref (g.2.1 0), .int (nI (by2 f p)), .ref q], M1)) rfl rfl rfl ?_
        refine pl_call (a := [.ref q, .int (nI (by2 f p)), .ref (g.2.1 0)]) (rest := []) rfl rfl rfl (dy_textIs (f := f) (n := n) (N := N) (q := q) (E := E) (j := (by2 f p)) (k := 0) (hV1) (by2_lt _ _) (by decide)) (fun v18 M19 q20 => ?_)
        obtain ⟨rfl, rfl⟩ := q20
        show pl _ _ _ (37, [(0, .ref ac), (1, .ref a), (2, .int (nI p)), (3, .int (nI i))], [.int (nI (eqN (tX f n E (by2 f p)) (ltx 0)))], M1) _
        refine ps_if (S1 := (44, [(0, .ref ac), (1, .ref a), (2, .int (nI p)), (3, .int (nI i))], [], M1)) (S2 := (40, [(0, .ref ac), (1, .ref a), (2, .int (nI p)), (3, .int (nI i))], [], M1)) rfl rfl rfl (fun c_37 => ?_) (fun c_37 => ?_)
        · have c_37 : (nI (eqN (tX f n E (by2 f p)) (ltx 0))) = 0 := of_decide_eq_true c_37
          have n_37 : eqN (tX f n E (by2 f p)) (ltx 0) = 0 := (eq_nI (p := eqN (tX f n E (by2 f p)) (ltx 0)) (n := 0) (Nat.lt_trans (le1_eq _ _) (by decide)) (by decide)).mp c_37
          refine ps_st (S' := (45, [(0, .ref ac), (1, .ref a), (2, .int (nI p)), (3, .int (nI i))], [.int 0], M1)) rfl rfl rfl ?_
          refine ps_st (S' := (47, [(4, .int 0), (0, .ref ac), (1, .ref a), (2, .int (nI p)), (3, .int (nI i))], [], M1)) rfl rfl rfl ?_
          refine ps_st (S' := (48, [(4, .int 0), (0, .ref ac), (1, .ref a), (2, .int (nI p)), (3, .int (nI i))], [.ref ac], M1)) rfl rfl rfl ?_
          refine ps_st (S' := (49, [(4, .int 0), (0, .ref ac), (1, .ref a), (2, .int (nI p)), (3, .int (nI i))], [.int (nI p), .ref ac], M1)) rfl rfl rfl ?_
          refine ps_st (S' := (51, [(4, .int 0), (0, .ref ac), (1, .ref a), (2, .int (nI p)), (3, .int (nI i))], [.int 0, .int (nI p), .ref ac], M1)) rfl rfl rfl ?_
          have hk9 : fkN f n E (by2 f p) = 0 := by
            unfold fkN
            first | ((repeat first | rw [if_pos (by omega)] | rw [if_neg (by omega)]) <;> first | rfl | omega) | ((repeat' split) <;> first | rfl | (exfalso; omega) | omega)
          refine pl_call (a := [.ref ac, .int (nI p), .int 0]) (rest := []) rfl rfl rfl (dk_isNew (f := f) (n := n) (N := N) (q := q) (E := E) (ac := ac) (c := c) (b := b) (da := da) (vd := vd) (fr := fr) (mr := mr) (fa := fa) (ic := ic) (mj := mj) (na := na) (pa := pa) (mi := mi) (ru := ru) (wa := wa) (k1 := k1) (k2 := k2) (k3 := k3) (k4 := k4) (k5 := k5) (k6 := k6) (k7 := k7) (s := s2) (k := 0) (p := p) hl_ac hl_b hl_da hl_vd (hn) (by omega) (by omega) (by omega) (hV1)) (fun v21 M22 q23 => ?_)
          rcases q23 with q23 | q23
          · skip
            obtain ⟨e24, q51_s, rfl, h25, f26⟩ := q23
            have h28 := (f26.1 b (nin2 (ob_ne hl_b hl_ac (by decide)) (ob_ne hl_b hl_vd (by decide)))).trans hl_b
            have h29 := (f26.1 da (nin2 (Ne.symm (ob_ar hl_ac hl_da)) (Ne.symm (ob_ar hl_vd hl_da)))).trans hl_da
            have h30 := (f26.1 c (nin2 (ob_ne hl_c hl_ac (by decide)) (ob_ne hl_c hl_vd (by decide)))).trans hl_c
            have h31 := (f26.1 a (nin2 (ob_ne hl_a hl_ac (by decide)) (ob_ne hl_a hl_vd (by decide)))).trans hl_a
            have hF32 := hF1.tr f26 (by simp)
            have hV33 := hV1.keep f26.gm (n7c hl_ac (by decide) (n7c hl_vd (by decide) (n7nil)))
            show pl _ _ _ (54, [(4, .int 0), (0, .ref ac), (1, .ref a), (2, .int (nI p)), (3, .int (nI i))], [.int 0], M22) _
            refine ps_if (S1 := (59, [(4, .int 0), (0, .ref ac), (1, .ref a), (2, .int (nI p)), (3, .int (nI i))], [], M22)) (S2 := (57, [(4, .int 0), (0, .ref ac), (1, .ref a), (2, .int (nI p)), (3, .int (nI i))], [], M22)) rfl rfl rfl (fun c_54 => ?_) (fun c_54 => ?_)
            · exact absurd (of_decide_eq_true c_54) (by decide)
            refine ps_st (S' := (58, [(4, .int 0), (0, .ref ac), (1, .ref a), (2, .int (nI p)), (3, .int (nI i))], [.int 0], M22)) rfl rfl rfl ?_
            exact ps_ret rfl rfl (Or.inr ⟨e24, by
                rw [← hs9, faS_st (i := i) (by omega), hk9, q51_s], rfl, h25, hF32⟩)
          · skip
            obtain ⟨s'34, q51_s, q51_l, rfl, h35, h36, f37⟩ := q23
            have h39 := (f37.1 b (nin2 (ob_ne hl_b hl_ac (by decide)) (ob_ne hl_b hl_vd (by decide)))).trans hl_b
            have h40 := (f37.1 da (nin2 (Ne.symm (ob_ar hl_ac hl_da)) (Ne.symm (ob_ar hl_vd hl_da)))).trans hl_da
            have h41 := (f37.1 c (nin2 (ob_ne hl_c hl_ac (by decide)) (ob_ne hl_c hl_vd (by decide)))).trans hl_c
            have h42 := (f37.1 a (nin2 (ob_ne hl_a hl_ac (by decide)) (ob_ne hl_a hl_vd (by decide)))).trans hl_a
            have hF43 := hF1.tr f37 (by simp)
            have hV44 := hV1.keep f37.gm (n7c hl_ac (by decide) (n7c hl_vd (by decide) (n7nil)))
            show pl _ _ _ (54, [(4, .int 0), (0, .ref ac), (1, .ref a), (2, .int (nI p)), (3, .int (nI i))], [.int 1], M22) _
            refine ps_if (S1 := (59, [(4, .int 0), (0, .ref ac), (1, .ref a), (2, .int (nI p)), (3, .int (nI i))], [], M22)) (S2 := (57, [(4, .int 0), (0, .ref ac), (1, .ref a), (2, .int (nI p)), (3, .int (nI i))], [], M22)) rfl rfl rfl (fun c_54 => ?_) (fun c_54 => ?_)
            rotate_left
            · exact absurd (by decide) (of_decide_eq_false c_54)
            refine ps_st (S' := (61, [(4, .int 0), (0, .ref ac), (1, .ref a), (2, .int (nI p)), (3, .int (nI i))], [.int 0], M22)) rfl rfl rfl ?_
            refine ps_if (S1 := (98, [(0, .ref ac), (1, .ref a), (2, .int (nI p)), (3, .int (nI i)), (4, .int 0)], [], M22)) (S2 := (64, [(4, .int 0), (0, .ref ac), (1, .ref a), (2, .int (nI p)), (3, .int (nI i))], [], M22)) rfl rfl rfl (fun c_61 => ?_) (fun c_61 => ?_)
            rotate_left
            · exact absurd (by decide) (of_decide_eq_false c_61)
            refine ps_st (S' := (100, [(0, .ref ac), (1, .ref a), (2, .int (nI p)), (3, .int (nI i)), (4, .int 0)], [.int 0], M22)) rfl rfl rfl ?_
            refine ps_st (S' := (101, [(0, .ref ac), (1, .ref a), (2, .int (nI p)), (3, .int (nI i)), (4, .int 0)], [.int 1, .int 0], M22)) rfl rfl rfl ?_
            refine ps_if2 (S1 := (161, [(0, .ref ac), (1, .ref a), (2, .int (nI p)), (3, .int (nI i))], [], M22)) (S2 := (104, [(0, .ref ac), (1, .ref a), (2, .int (nI p)), (3, .int (nI i)), (4, .int 0)], [], M22)) rfl rfl rfl (fun c_101 => ?_) (fun c_101 => ?_)
            rotate_left
            · exact absurd (by decide) (of_decide_eq_false c_101)
            refine ps_st (S' := (162, [(0, .ref ac), (1, .ref a), (2, .int (nI p)), (3, .int (nI i))], [.ref ac], M22)) rfl rfl rfl ?_
            refine ps_st (S' := (163, [(0, .ref ac), (1, .ref a), (2, .int (nI p)), (3, .int (nI i))], [.int (nI p), .ref ac], M22)) rfl rfl rfl ?_
            refine pl_call (a := [.ref ac, .int (nI p)]) (rest := []) rfl rfl rfl (dk_behind (f := f) (n := n) (q := q) (ac := ac) (c := c) (b := b) (da := da) (vd := vd) (s1 := (nI s'34)) (p := p) h35 h39 h40 (hn) (by omega)) (fun v45 M46 q47 => ?_)
            obtain ⟨rfl, rfl⟩ := q47
            show pl _ _ _ (166, [(0, .ref ac), (1, .ref a), (2, .int (nI p)), (3, .int (nI i))], [.int (nI (p + 6 + by4 f (p + 2)))], M22) _
            refine ps_st (S' := (167, [(2, .int (nI (p + 6 + by4 f (p + 2)))), (0, .ref ac), (1, .ref a), (3, .int (nI i))], [], M22)) rfl rfl rfl ?_
            refine ps_st (S' := (170, [(3, .int ((nI i) + 1)), (2, .int (nI (p + 6 + by4 f (p + 2)))), (0, .ref ac), (1, .ref a)], [], M22)) rfl rfl rfl ?_
            rw [nI_add1 (p := i) (k := 1) (x := 1) rfl (by omega)]
            show pl _ _ _ (_, [(3, .int (nI (i + 1))), (2, .int (nI (p + 6 + by4 f (p + 2)))), (0, .ref ac), (1, .ref a)], [], M22) _
            refine ps_st (S' := (12, [(0, .ref ac), (1, .ref a), (2, .int (nI (p + 6 + by4 f (p + 2)))), (3, .int (nI (i + 1)))], [], M22)) rfl rfl rfl ?_
            exact ih (i + 1) (p + 6 + by4 f (p + 2)) ((s'34)) (K) (kn2) M22 h35 h39 h40 h41 h36 h42 hV44 hF43 (by omega) (q51_l) (hq7) (by
                rw [← hs9, faS_st (i := i) (by omega), hk9, q51_s]
                dsimp only
                rw [if_neg (fun h => h.1 rfl), if_neg (fun h => h.1 rfl)]) (by
                rw [← hu, faU_st (i := i) (p := p) (by omega), hk9, stF_0]) (by
                rw [nw_pop q51_s (by decide), hpc]
                rfl)
        · have c_37 : ¬ ((nI (eqN (tX f n E (by2 f p)) (ltx 0))) = 0) := of_decide_eq_false c_37
          have n_37 : ¬ (eqN (tX f n E (by2 f p)) (ltx 0) = 0) := fun h9 => c_37 ((eq_nI (p := eqN (tX f n E (by2 f p)) (ltx 0)) (n := 0) (Nat.lt_trans (le1_eq _ _) (by decide)) (by decide)).mpr h9)
          refine ps_st (S' := (41, [(0, .ref ac), (1, .ref a), (2, .int (nI p)), (3, .int (nI i))], [.int 1], M1)) rfl rfl rfl ?_
          refine ps_st (S' := (45, [(0, .ref ac), (1, .ref a), (2, .int (nI p)), (3, .int (nI i))], [.int 1], M1)) rfl rfl rfl ?_
          refine ps_st (S' := (47, [(4, .int 1), (0, .ref ac), (1, .ref a), (2, .int (nI p)), (3, .int (nI i))], [], M1)) rfl rfl rfl ?_
          refine ps_st (S' := (48, [(4, .int 1), (0, .ref ac), (1, .ref a), (2, .int (nI p)), (3, .int (nI i))], [.ref ac], M1)) rfl rfl rfl ?_
          refine ps_st (S' := (49, [(4, .int 1), (0, .ref ac), (1, .ref a), (2, .int (nI p)), (3, .int (nI i))], [.int (nI p), .ref ac], M1)) rfl rfl rfl ?_
          refine ps_st (S' := (51, [(4, .int 1), (0, .ref ac), (1, .ref a), (2, .int (nI p)), (3, .int (nI i))], [.int 1, .int (nI p), .ref ac], M1)) rfl rfl rfl ?_
          have hk9 : fkN f n E (by2 f p) = 1 := by
            unfold fkN
            first | ((repeat first | rw [if_pos (by omega)] | rw [if_neg (by omega)]) <;> first | rfl | omega) | ((repeat' split) <;> first | rfl | (exfalso; omega) | omega)
          refine pl_call (a := [.ref ac, .int (nI p), .int 1]) (rest := []) rfl rfl rfl (dk_isNew (f := f) (n := n) (N := N) (q := q) (E := E) (ac := ac) (c := c) (b := b) (da := da) (vd := vd) (fr := fr) (mr := mr) (fa := fa) (ic := ic) (mj := mj) (na := na) (pa := pa) (mi := mi) (ru := ru) (wa := wa) (k1 := k1) (k2 := k2) (k3 := k3) (k4 := k4) (k5 := k5) (k6 := k6) (k7 := k7) (s := s2) (k := 1) (p := p) hl_ac hl_b hl_da hl_vd (hn) (by omega) (by omega) (by omega) (hV1)) (fun v48 M49 q50 => ?_)
          rcases q50 with q50 | q50
          · skip
            obtain ⟨e51, q51_s, rfl, h52, f53⟩ := q50
            have h55 := (f53.1 b (nin2 (ob_ne hl_b hl_ac (by decide)) (ob_ne hl_b hl_vd (by decide)))).trans hl_b
            have h56 := (f53.1 da (nin2 (Ne.symm (ob_ar hl_ac hl_da)) (Ne.symm (ob_ar hl_vd hl_da)))).trans hl_da
            have h57 := (f53.1 c (nin2 (ob_ne hl_c hl_ac (by decide)) (ob_ne hl_c hl_vd (by decide)))).trans hl_c
            have h58 := (f53.1 a (nin2 (ob_ne hl_a hl_ac (by decide)) (ob_ne hl_a hl_vd (by decide)))).trans hl_a
            have hF59 := hF1.tr f53 (by simp)
            have hV60 := hV1.keep f53.gm (n7c hl_ac (by decide) (n7c hl_vd (by decide) (n7nil)))
            show pl _ _ _ (54, [(4, .int 1), (0, .ref ac), (1, .ref a), (2, .int (nI p)), (3, .int (nI i))], [.int 0], M49) _
            refine ps_if (S1 := (59, [(4, .int 1), (0, .ref ac), (1, .ref a), (2, .int (nI p)), (3, .int (nI i))], [], M49)) (S2 := (57, [(4, .int 1), (0, .ref ac), (1, .ref a), (2, .int (nI p)), (3, .int (nI i))], [], M49)) rfl rfl rfl (fun c_54 => ?_) (fun c_54 => ?_)
            · exact absurd (of_decide_eq_true c_54) (by decide)
            refine ps_st (S' := (58, [(4, .int 1), (0, .ref ac), (1, .ref a), (2, .int (nI p)), (3, .int (nI i))], [.int 0], M49)) rfl rfl rfl ?_
            exact ps_ret rfl rfl (Or.inr ⟨e51, by
                rw [← hs9, faS_st (i := i) (by omega), hk9, q51_s], rfl, h52, hF59⟩)
          · skip
            obtain ⟨s'61, q51_s, q51_l, rfl, h62, h63, f64⟩ := q50
            have h66 := (f64.1 b (nin2 (ob_ne hl_b hl_ac (by decide)) (ob_ne hl_b hl_vd (by decide)))).trans hl_b
            have h67 := (f64.1 da (nin2 (Ne.symm (ob_ar hl_ac hl_da)) (Ne.symm (ob_ar hl_vd hl_da)))).trans hl_da
            have h68 := (f64.1 c (nin2 (ob_ne hl_c hl_ac (by decide)) (ob_ne hl_c hl_vd (by decide)))).trans hl_c
            have h69 := (f64.1 a (nin2 (ob_ne hl_a hl_ac (by decide)) (ob_ne hl_a hl_vd (by decide)))).trans hl_a
            have hF70 := hF1.tr f64 (by simp)
            have hV71 := hV1.keep f64.gm (n7c hl_ac (by decide) (n7c hl_vd (by decide) (n7nil)))
            show pl _ _ _ (54, [(4, .int 1), (0, .ref ac), (1, .ref a), (2, .int (nI p)), (3, .int (nI i))], [.int 1], M49) _
            refine ps_if (S1 := (59, [(4, .int 1), (0, .ref ac), (1, .ref a), (2, .int (nI p)), (3, .int (nI i))], [], M49)) (S2 := (57, [(4, .int 1), (0, .ref ac), (1, .ref a), (2, .int (nI p)), (3, .int (nI i))], [], M49)) rfl rfl rfl (fun c_54 => ?_) (fun c_54 => ?_)
            rotate_left
            · exact absurd (by decide) (of_decide_eq_false c_54)
            refine ps_st (S' := (61, [(4, .int 1), (0, .ref ac), (1, .ref a), (2, .int (nI p)), (3, .int (nI i))], [.int 1], M49)) rfl rfl rfl ?_
            refine ps_if (S1 := (98, [(0, .ref ac), (1, .ref a), (2, .int (nI p)), (3, .int (nI i)), (4, .int 1)], [], M49)) (S2 := (64, [(4, .int 1), (0, .ref ac), (1, .ref a), (2, .int (nI p)), (3, .int (nI i))], [], M49)) rfl rfl rfl (fun c_61 => ?_) (fun c_61 => ?_)
            · exact absurd (of_decide_eq_true c_61) (by decide)
            refine ps_st (S' := (65, [(4, .int 1), (0, .ref ac), (1, .ref a), (2, .int (nI p)), (3, .int (nI i))], [.ref ac], M49)) rfl rfl rfl ?_
            refine ps_st (S' := (67, [(4, .int 1), (0, .ref ac), (1, .ref a), (2, .int (nI p)), (3, .int (nI i))], [.int 1, .ref ac], M49)) rfl rfl rfl ?_
            refine ps_st (S' := (68, [(4, .int 1), (0, .ref ac), (1, .ref a), (2, .int (nI p)), (3, .int (nI i))], [.int (nI p), .int 1, .ref ac], M49)) rfl rfl rfl ?_
            refine ps_st (S' := (70, [(4, .int 1), (0, .ref ac), (1, .ref a), (2, .int (nI p)), (3, .int (nI i))], [.int 6, .int (nI p), .int 1, .ref ac], M49)) rfl rfl rfl ?_
            refine ps_st (S' := (71, [(4, .int 1), (0, .ref ac), (1, .ref a), (2, .int (nI p)), (3, .int (nI i))], [.int ((nI p) + 6), .int 1, .ref ac], M49)) rfl rfl rfl ?_
            rw [nI_add1 (p := p) (k := 6) (x := 6) rfl (by omega)]
            show pl _ _ _ (_, [(4, .int 1), (0, .ref ac), (1, .ref a), (2, .int (nI p)), (3, .int (nI i))], [.int (nI (p + 6)), .int 1, .ref ac], M49) _
            refine ps_st (S' := (72, [(4, .int 1), (0, .ref ac), (1, .ref a), (2, .int (nI p)), (3, .int (nI i))], [.ref ac, .int (nI (p + 6)), .int 1, .ref ac], M49)) rfl rfl rfl ?_
            refine ps_st (S' := (73, [(4, .int 1), (0, .ref ac), (1, .ref a), (2, .int (nI p)), (3, .int (nI i))], [.int (nI p), .ref ac, .int (nI (p + 6)), .int 1, .ref ac], M49)) rfl rfl rfl ?_
            refine pl_call (a := [.ref ac, .int (nI p)]) (rest := [.int (nI (p + 6)), .int 1, .ref ac]) rfl rfl rfl (dk_behind (f := f) (n := n) (q := q) (ac := ac) (c := c) (b := b) (da := da) (vd := vd) (s1 := (nI s'61)) (p := p) h62 h66 h67 (hn) (by omega)) (fun v72 M73 q74 => ?_)
            obtain ⟨rfl, rfl⟩ := q74
            show pl _ _ _ (76, [(4, .int 1), (0, .ref ac), (1, .ref a), (2, .int (nI p)), (3, .int (nI i))], [.int (nI (p + 6 + by4 f (p + 2))), .int (nI (p + 6)), .int 1, .ref ac], M49) _
            refine pl_call (a := [.ref ac, .int 1, .int (nI (p + 6)), .int (nI (p + 6 + by4 f (p + 2)))]) (rest := []) rfl rfl rfl (dk_formEnd (f := f) (n := n) (q := q) (ac := ac) (c := c) (b := b) (da := da) (vd := vd) (s1 := (nI s'61)) (k := 1) (p0 := (p + 6)) (e := (p + 6 + by4 f (p + 2))) h62 h66 h67 (hn) (by omega) (by omega)) (fun v75 M76 q77 => ?_)
            rcases q77 with q77 | q77
            · skip
              obtain ⟨q76_s, rfl, rfl⟩ := q77
              show pl _ _ _ (79, [(4, .int 1), (0, .ref ac), (1, .ref a), (2, .int (nI p)), (3, .int (nI i))], [.int (-1)], M49) _
              refine ps_st (S' := (80, [(4, .int 1), (0, .ref ac), (1, .ref a), (2, .int (nI p)), (3, .int (nI i))], [.ref ac, .int (-1)], M49)) rfl rfl rfl ?_
              refine ps_st (S' := (81, [(4, .int 1), (0, .ref ac), (1, .ref a), (2, .int (nI p)), (3, .int (nI i))], [.int (nI p), .ref ac, .int (-1)], M49)) rfl rfl rfl ?_
              refine pl_call (a := [.ref ac, .int (nI p)]) (rest := [.int (-1)]) rfl rfl rfl (dk_behind (f := f) (n := n) (q := q) (ac := ac) (c := c) (b := b) (da := da) (vd := vd) (s1 := (nI s'61)) (p := p) h62 h66 h67 (hn) (by omega)) (fun v78 M79 q80 => ?_)
              obtain ⟨rfl, rfl⟩ := q80
              show pl _ _ _ (84, [(4, .int 1), (0, .ref ac), (1, .ref a), (2, .int (nI p)), (3, .int (nI i))], [.int (nI (p + 6 + by4 f (p + 2))), .int (-1)], M49) _
              refine ps_if2 (S1 := (98, [(0, .ref ac), (1, .ref a), (2, .int (nI p)), (3, .int (nI i)), (4, .int 1)], [], M49)) (S2 := (87, [(4, .int 1), (0, .ref ac), (1, .ref a), (2, .int (nI p)), (3, .int (nI i))], [], M49)) rfl rfl rfl (fun c_84 => ?_) (fun c_84 => ?_)
              · exact absurd (of_decide_eq_true c_84) (m1_ne (by omega))
              have hfe : ¬ s_fe f 1 (p + 6) (p + 6 + by4 f (p + 2)) = some (p + 6 + by4 f (p + 2)) := by rw [q76_s]; exact fun h => by cases h
              refine ps_st (S' := (88, [(4, .int 1), (0, .ref ac), (1, .ref a), (2, .int (nI p)), (3, .int (nI i))], [.ref ac], M49)) rfl rfl rfl ?_
              refine ps_get (S' := (91, [(4, .int 1), (0, .ref ac), (1, .ref a), (2, .int (nI p)), (3, .int (nI i))], [.ref vd], M49)) rfl h62 rfl rfl ?_
              refine ps_st (S' := (93, [(4, .int 1), (0, .ref ac), (1, .ref a), (2, .int (nI p)), (3, .int (nI i))], [.int 30, .ref vd], M49)) rfl rfl rfl ?_
              refine ps_st (S' := (94, [(4, .int 1), (0, .ref ac), (1, .ref a), (2, .int (nI p)), (3, .int (nI i))], [.int (nI p), .int 30, .ref vd], M49)) rfl rfl rfl ?_
              refine pl_call (a := [.ref vd, .int 30, .int (nI p)]) (rest := []) rfl rfl rfl (dk_wrong (vd := vd) (ru := ru) (wa := wa) (x1 := 30) (x2 := (nI p)) h63) (fun v81 M82 q83 => ?_)
              obtain ⟨rfl, h84, f85⟩ := q83
              have h87 := (f85.1 ac (nin1 (ob_ne h62 h63 (by decide)))).trans h62
              have h88 := (f85.1 b (nin1 (ob_ne h66 h63 (by decide)))).trans h66
              have h89 := (f85.1 da (nin1 (Ne.symm (ob_ar h63 h67)))).trans h67
              have h90 := (f85.1 c (nin1 (ob_ne h68 h63 (by decide)))).trans h68
              have h91 := (f85.1 a (nin1 (ob_ne h69 h63 (by decide)))).trans h69
              have hF92 := hF70.tr f85 (by simp)
              have hV93 := hV71.keep f85.gm (n7c h63 (by decide) (n7nil))
              show pl _ _ _ (97, [(4, .int 1), (0, .ref ac), (1, .ref a), (2, .int (nI p)), (3, .int (nI i))], [.int 0], M82) _
              exact ps_ret rfl rfl (Or.inr ⟨(30, p), by
                  rw [← hs9, faS_st (i := i) (by omega), hk9, q51_s]
                  dsimp only
                  rw [if_pos ⟨by decide, hfe⟩], rfl, h84, hF92⟩)
            · skip
              obtain ⟨x94, q76_s, q76_l, rfl, rfl⟩ := q77
              show pl _ _ _ (79, [(4, .int 1), (0, .ref ac), (1, .ref a), (2, .int (nI p)), (3, .int (nI i))], [.int (nI x94)], M49) _
              refine ps_st (S' := (80, [(4, .int 1), (0, .ref ac), (1, .ref a), (2, .int (nI p)), (3, .int (nI i))], [.ref ac, .int (nI x94)], M49)) rfl rfl rfl ?_
              refine ps_st (S' := (81, [(4, .int 1), (0, .ref ac), (1, .ref a), (2, .int (nI p)), (3, .int (nI i))], [.int (nI p), .ref ac, .int (nI x94)], M49)) rfl rfl rfl ?_
              refine pl_call (a := [.ref ac, .int (nI p)]) (rest := [.int (nI x94)]) rfl rfl rfl (dk_behind (f := f) (n := n) (q := q) (ac := ac) (c := c) (b := b) (da := da) (vd := vd) (s1 := (nI s'61)) (p := p) h62 h66 h67 (hn) (by omega)) (fun v95 M96 q97 => ?_)
              obtain ⟨rfl, rfl⟩ := q97
              show pl _ _ _ (84, [(4, .int 1), (0, .ref ac), (1, .ref a), (2, .int (nI p)), (3, .int (nI i))], [.int (nI (p + 6 + by4 f (p + 2))), .int (nI x94)], M49) _
              refine ps_if2 (S1 := (98, [(0, .ref ac), (1, .ref a), (2, .int (nI p)), (3, .int (nI i)), (4, .int 1)], [], M49)) (S2 := (87, [(4, .int 1), (0, .ref ac), (1, .ref a), (2, .int (nI p)), (3, .int (nI i))], [], M49)) rfl rfl rfl (fun c_84 => ?_) (fun c_84 => ?_)
              · have c_84 : (nI x94) = (nI (p + 6 + by4 f (p + 2))) := of_decide_eq_true c_84
                have n_84 : x94 = p + 6 + by4 f (p + 2) := (eq_nI (p := x94) (n := p + 6 + by4 f (p + 2)) (by omega) (by omega)).mp c_84
                have hfe : s_fe f 1 (p + 6) (p + 6 + by4 f (p + 2)) = some (p + 6 + by4 f (p + 2)) := by rw [q76_s, n_84]
                have hb8 := (s_fe_in hfe).1
                refine ps_st (S' := (100, [(0, .ref ac), (1, .ref a), (2, .int (nI p)), (3, .int (nI i)), (4, .int 1)], [.int 1], M49)) rfl rfl rfl ?_
                refine ps_st (S' := (101, [(0, .ref ac), (1, .ref a), (2, .int (nI p)), (3, .int (nI i)), (4, .int 1)], [.int 1, .int 1], M49)) rfl rfl rfl ?_
                refine ps_if2 (S1 := (161, [(0, .ref ac), (1, .ref a), (2, .int (nI p)), (3, .int (nI i))], [], M49)) (S2 := (104, [(0, .ref ac), (1, .ref a), (2, .int (nI p)), (3, .int (nI i)), (4, .int 1)], [], M49)) rfl rfl rfl (fun c_101 => ?_) (fun c_101 => ?_)
                · exact absurd (of_decide_eq_true c_101) (by decide)
                refine ps_st (S' := (105, [(0, .ref ac), (1, .ref a), (2, .int (nI p)), (3, .int (nI i)), (4, .int 1)], [.ref a], M49)) rfl rfl rfl ?_
                refine ps_st (S' := (107, [(0, .ref ac), (1, .ref a), (2, .int (nI p)), (3, .int (nI i)), (4, .int 1)], [.int 8, .ref a], M49)) rfl rfl rfl ?_
                refine pl_call (a := [.ref a, .int 8]) (rest := []) rfl rfl rfl (dk_mhas (f := f) (a := a) (b0 := b0) (kn := kn2) (co := (nI K.2)) (ap := ap) (ex := ex) (cd := cd) (x := 8) h69) (fun v98 M99 q100 => ?_)
                obtain ⟨rfl, rfl⟩ := q100
                show pl _ _ _ (110, [(0, .ref ac), (1, .ref a), (2, .int (nI p)), (3, .int (nI i)), (4, .int 1)], [.int (nI (hasN (by2 f b0) 8))], M49) _
                refine ps_if (S1 := (161, [(0, .ref ac), (1, .ref a), (2, .int (nI p)), (3, .int (nI i))], [], M49)) (S2 := (113, [(0, .ref ac), (1, .ref a), (2, .int (nI p)), (3, .int (nI i)), (4, .int 1)], [], M49)) rfl rfl rfl (fun c_110 => ?_) (fun c_110 => ?_)
                · have c_110 : (nI (hasN (by2 f b0) 8)) = 0 := of_decide_eq_true c_110
                  have n_110 : hasN (by2 f b0) 8 = 0 := (eq_nI (p := hasN (by2 f b0) 8) (n := 0) (Nat.lt_trans (le1_has _ _) (by decide)) (by decide)).mp c_110
                  refine ps_st (S' := (162, [(0, .ref ac), (1, .ref a), (2, .int (nI p)), (3, .int (nI i))], [.ref ac], M49)) rfl rfl rfl ?_
                  refine ps_st (S' := (163, [(0, .ref ac), (1, .ref a), (2, .int (nI p)), (3, .int (nI i))], [.int (nI p), .ref ac], M49)) rfl rfl rfl ?_
                  refine pl_call (a := [.ref ac, .int (nI p)]) (rest := []) rfl rfl rfl (dk_behind (f := f) (n := n) (q := q) (ac := ac) (c := c) (b := b) (da := da) (vd := vd) (s1 := (nI s'61)) (p := p) h62 h66 h67 (hn) (by omega)) (fun v101 M102 q103 => ?_)
                  obtain ⟨rfl, rfl⟩ := q103
                  show pl _ _ _ (166, [(0, .ref ac), (1, .ref a), (2, .int (nI p)), (3, .int (nI i))], [.int (nI (p + 6 + by4 f (p + 2)))], M49) _
                  refine ps_st (S' := (167, [(2, .int (nI (p + 6 + by4 f (p + 2)))), (0, .ref ac), (1, .ref a), (3, .int (nI i))], [], M49)) rfl rfl rfl ?_
                  refine ps_st (S' := (170, [(3, .int ((nI i) + 1)), (2, .int (nI (p + 6 + by4 f (p + 2)))), (0, .ref ac), (1, .ref a)], [], M49)) rfl rfl rfl ?_
                  rw [nI_add1 (p := i) (k := 1) (x := 1) rfl (by omega)]
                  show pl _ _ _ (_, [(3, .int (nI (i + 1))), (2, .int (nI (p + 6 + by4 f (p + 2)))), (0, .ref ac), (1, .ref a)], [], M49) _
                  refine ps_st (S' := (12, [(0, .ref ac), (1, .ref a), (2, .int (nI (p + 6 + by4 f (p + 2)))), (3, .int (nI (i + 1)))], [], M49)) rfl rfl rfl ?_
                  exact ih (i + 1) (p + 6 + by4 f (p + 2)) ((s'61)) ((K.1 + 1, K.2)) (kn2) M49 h62 h66 h67 h68 h63 h69 hV71 hF70 (by omega) (q51_l) (hq7) (by
                      rw [← hs9, faS_st (i := i) (by omega), hk9, q51_s]
                      dsimp only
                      rw [if_neg (fun h => h.2 hfe)]
                      rw [if_neg (fun h => h.2.1 n_110)]) (by
                      rw [← hu, faU_st (i := i) (p := p) (by omega), hk9, stF_n n_110]) (by
                      rw [nw_pop q51_s (by decide), hpc]
                      rfl)
                · have c_110 : ¬ ((nI (hasN (by2 f b0) 8)) = 0) := of_decide_eq_false c_110
                  have n_110 : ¬ (hasN (by2 f b0) 8 = 0) := fun h9 => c_110 ((eq_nI (p := hasN (by2 f b0) 8) (n := 0) (Nat.lt_trans (le1_has _ _) (by decide)) (by decide)).mpr h9)
                  refine ps_st (S' := (114, [(0, .ref ac), (1, .ref a), (2, .int (nI p)), (3, .int (nI i)), (4, .int 1)], [.ref a], M49)) rfl rfl rfl ?_
                  refine ps_st (S' := (115, [(0, .ref ac), (1, .ref a), (2, .int (nI p)), (3, .int (nI i)), (4, .int 1)], [.ref ac, .ref a], M49)) rfl rfl rfl ?_
                  refine ps_get (S' := (118, [(0, .ref ac), (1, .ref a), (2, .int (nI p)), (3, .int (nI i)), (4, .int 1)], [.ref b, .ref a], M49)) rfl h62 rfl rfl ?_
                  refine ps_st (S' := (119, [(0, .ref ac), (1, .ref a), (2, .int (nI p)), (3, .int (nI i)), (4, .int 1)], [.int (nI p), .ref b, .ref a], M49)) rfl rfl rfl ?_
                  refine ps_st (S' := (121, [(0, .ref ac), (1, .ref a), (2, .int (nI p)), (3, .int (nI i)), (4, .int 1)], [.int 6, .int (nI p), .ref b, .ref a], M49)) rfl rfl rfl ?_
                  refine ps_st (S' := (122, [(0, .ref ac), (1, .ref a), (2, .int (nI p)), (3, .int (nI i)), (4, .int 1)], [.int ((nI p) + 6), .ref b, .ref a], M49)) rfl rfl rfl ?_
                  rw [nI_add1 (p := p) (k := 6) (x := 6) rfl (by omega)]
                  show pl _ _ _ (_, [(0, .ref ac), (1, .ref a), (2, .int (nI p)), (3, .int (nI i)), (4, .int 1)], [.int (nI (p + 6)), .ref b, .ref a], M49) _
                  refine pl_call (a := [.ref b, .int (nI (p + 6))]) (rest := [.ref a]) rfl rfl rfl (dk_u2 (f := f) (n := n) (b := b) (da := da) (p := (p + 6)) h66 h67 (hn) (by omega)) (fun v104 M105 q106 => ?_)
                  obtain ⟨rfl, rfl⟩ := q106
                  show pl _ _ _ (125, [(0, .ref ac), (1, .ref a), (2, .int (nI p)), (3, .int (nI i)), (4, .int 1)], [.int (nI (by2 f (p + 6))), .ref a], M49) _
                  have hu_122 := by2_lt f (p + 6)
                  refine ps_put (l' := [.int (nI b0), .int (nI (by2 f b0)), .int (nI (by2 f (b0 + 2))), .int (nI (by2 f (b0 + 4))), .int (nI (by2 f (b0 + 6))), .int (nI (b0 + 8)), .int kn2, .int (nI (by2 f (p + 6))), .int ap, .int ex, cd]) rfl h69 rfl rfl (fun M107 h108 f109 z110 => ?_)
                  have h111 := (f109 ac (ob_ne h62 h69 (by decide))).trans h62
                  have h112 := (f109 b (ob_ne h66 h69 (by decide))).trans h66
                  have h113 := (f109 da (Ne.symm (ob_ar h69 h67))).trans h67
                  have h114 := (f109 c (ob_ne h68 h69 (by decide))).trans h68
                  have h115 := (f109 vd (ob_ne h63 h69 (by decide))).trans h63
                  have hV116 := hV71.put h69 (by decide) f109 z110
                  have hF117 := hF70.up (by simp) f109 z110
                  show pl _ _ _ (128, [(0, .ref ac), (1, .ref a), (2, .int (nI p)), (3, .int (nI i)), (4, .int 1)], [], M107) _
                  refine ps_st (S' := (129, [(0, .ref ac), (1, .ref a), (2, .int (nI p)), (3, .int (nI i)), (4, .int 1)], [.ref ac], M107)) rfl rfl rfl ?_
                  refine ps_get (S' := (132, [(0, .ref ac), (1, .ref a), (2, .int (nI p)), (3, .int (nI i)), (4, .int 1)], [.ref q], M107)) rfl h111 rfl rfl ?_
                  refine ps_st (S' := (133, [(0, .ref ac), (1, .ref a), (2, .int (nI p)), (3, .int (nI i)), (4, .int 1)], [.ref a, .ref q], M107)) rfl rfl rfl ?_
                  refine ps_get (S' := (136, [(0, .ref ac), (1, .ref a), (2, .int (nI p)), (3, .int (nI i)), (4, .int 1)], [.int (nI (by2 f (p + 6))), .ref q], M107)) rfl h108 rfl rfl ?_
                  refine pl_call (a := [.ref q, .int (nI (by2 f (p + 6)))]) (rest := []) rfl rfl rfl (dy_tagOf (f := f) (n := n) (N := N) (q := q) (E := E) (j := (by2 f (p + 6))) (hV116) (by2_lt _ _)) (fun v118 M119 q120 => ?_)
                  obtain ⟨rfl, rfl⟩ := q120
                  show pl _ _ _ (139, [(0, .ref ac), (1, .ref a), (2, .int (nI p)), (3, .int (nI i)), (4, .int 1)], [.int (nI (tg f E (by2 f (p + 6))))], M107) _
                  refine ps_st (S' := (140, [(0, .ref ac), (1, .ref a), (2, .int (nI p)), (3, .int (nI i)), (4, .int 1)], [.ref ac, .int (nI (tg f E (by2 f (p + 6))))], M107)) rfl rfl rfl ?_
                  refine ps_st (S' := (141, [(0, .ref ac), (1, .ref a), (2, .int (nI p)), (3, .int (nI i)), (4, .int 1)], [.ref a, .ref ac, .int (nI (tg f E (by2 f (p + 6))))], M107)) rfl rfl rfl ?_
                  refine ps_get (S' := (144, [(0, .ref ac), (1, .ref a), (2, .int (nI p)), (3, .int (nI i)), (4, .int 1)], [.int (nI (by2 f (b0 + 4))), .ref ac, .int (nI (tg f E (by2 f (p + 6))))], M107)) rfl h108 rfl rfl ?_
                  refine pl_call (a := [.ref ac, .int (nI (by2 f (b0 + 4)))]) (rest := [.int (nI (tg f E (by2 f (p + 6))))]) rfl rfl rfl (dk_constantTag (f := f) (n := n) (N := N) (q := q) (E := E) (ac := ac) (c := c) (b := b) (da := da) (vd := vd) (fr := fr) (mr := mr) (fa := fa) (ic := ic) (mj := mj) (na := na) (pa := pa) (mi := mi) (ru := ru) (wa := wa) (s1 := (nI s'61)) (k1 := k1) (k2 := k2) (k3 := k3) (k4 := k4) (k5 := k5) (k6 := k6) (k7 := k7) (d := (by2 f (b0 + 4))) h111 h112 h113 (hn) (by2_lt _ _) (hV116)) (fun v121 M122 q123 => ?_)
                  rcases q123 with q123 | q123
                  · skip
                    obtain ⟨q144_s, rfl, rfl⟩ := q123
                    show pl _ _ _ (147, [(0, .ref ac), (1, .ref a), (2, .int (nI p)), (3, .int (nI i)), (4, .int 1)], [.int (-1), .int (nI (tg f E (by2 f (p + 6))))], M107) _
                    refine ps_if2 (S1 := (161, [(0, .ref ac), (1, .ref a), (2, .int (nI p)), (3, .int (nI i))], [], M107)) (S2 := (150, [(0, .ref ac), (1, .ref a), (2, .int (nI p)), (3, .int (nI i)), (4, .int 1)], [], M107)) rfl rfl rfl (fun c_147 => ?_) (fun c_147 => ?_)
                    · exact absurd (of_decide_eq_true c_147) (fun h9 => m1_ne (Nat.lt_trans (tg_lt _ _ _) (by decide)) h9.symm)
                    refine ps_st (S' := (151, [(0, .ref ac), (1, .ref a), (2, .int (nI p)), (3, .int (nI i)), (4, .int 1)], [.ref ac], M107)) rfl rfl rfl ?_
                    refine ps_get (S' := (154, [(0, .ref ac), (1, .ref a), (2, .int (nI p)), (3, .int (nI i)), (4, .int 1)], [.ref vd], M107)) rfl h111 rfl rfl ?_
                    refine ps_st (S' := (156, [(0, .ref ac), (1, .ref a), (2, .int (nI p)), (3, .int (nI i)), (4, .int 1)], [.int 31, .ref vd], M107)) rfl rfl rfl ?_
                    refine ps_st (S' := (157, [(0, .ref ac), (1, .ref a), (2, .int (nI p)), (3, .int (nI i)), (4, .int 1)], [.int (nI p), .int 31, .ref vd], M107)) rfl rfl rfl ?_
                    refine pl_call (a := [.ref vd, .int 31, .int (nI p)]) (rest := []) rfl rfl rfl (dk_wrong (vd := vd) (ru := ru) (wa := wa) (x1 := 31) (x2 := (nI p)) h115) (fun v124 M125 q126 => ?_)
                    obtain ⟨rfl, h127, f128⟩ := q126
                    have h130 := (f128.1 ac (nin1 (ob_ne h111 h115 (by decide)))).trans h111
                    have h131 := (f128.1 b (nin1 (ob_ne h112 h115 (by decide)))).trans h112
                    have h132 := (f128.1 da (nin1 (Ne.symm (ob_ar h115 h113)))).trans h113
                    have h133 := (f128.1 c (nin1 (ob_ne h114 h115 (by decide)))).trans h114
                    have h134 := (f128.1 a (nin1 (ob_ne h108 h115 (by decide)))).trans h108
                    have hF135 := hF117.tr f128 (by simp)
                    have hV136 := hV116.keep f128.gm (n7c h115 (by decide) (n7nil))
                    show pl _ _ _ (160, [(0, .ref ac), (1, .ref a), (2, .int (nI p)), (3, .int (nI i)), (4, .int 1)], [.int 0], M125) _
                    exact ps_ret rfl rfl (Or.inr ⟨(31, p), by
                        rw [← hs9, faS_st (i := i) (by omega), hk9, q51_s]
                        dsimp only
                        rw [if_neg (fun h => h.2 hfe)]
                        rw [if_pos ⟨by decide, n_110, by rw [q144_s]; exact fun h => by cases h⟩], rfl, h127, hF135⟩)
                  · skip
                    obtain ⟨x137, q144_s, q144_x, rfl, rfl⟩ := q123
                    show pl _ _ _ (147, [(0, .ref ac), (1, .ref a), (2, .int (nI p)), (3, .int (nI i)), (4, .int 1)], [.int (nI x137), .int (nI (tg f E (by2 f (p + 6))))], M107) _
                    refine ps_if2 (S1 := (161, [(0, .ref ac), (1, .ref a), (2, .int (nI p)), (3, .int (nI i))], [], M107)) (S2 := (150, [(0, .ref ac), (1, .ref a), (2, .int (nI p)), (3, .int (nI i)), (4, .int 1)], [], M107)) rfl rfl rfl (fun c_147 => ?_) (fun c_147 => ?_)
                    · have c_147 : (nI (tg f E (by2 f (p + 6)))) = (nI x137) := of_decide_eq_true c_147
                      have n_147 : tg f E (by2 f (p + 6)) = x137 := (eq_nI (p := tg f E (by2 f (p + 6))) (n := x137) (Nat.lt_trans (tg_lt _ _ _) (by decide)) (by omega)).mp c_147
                      refine ps_st (S' := (162, [(0, .ref ac), (1, .ref a), (2, .int (nI p)), (3, .int (nI i))], [.ref ac], M107)) rfl rfl rfl ?_
                      refine ps_st (S' := (163, [(0, .ref ac), (1, .ref a), (2, .int (nI p)), (3, .int (nI i))], [.int (nI p), .ref ac], M107)) rfl rfl rfl ?_
                      refine pl_call (a := [.ref ac, .int (nI p)]) (rest := []) rfl rfl rfl (dk_behind (f := f) (n := n) (q := q) (ac := ac) (c := c) (b := b) (da := da) (vd := vd) (s1 := (nI s'61)) (p := p) h111 h112 h113 (hn) (by omega)) (fun v138 M139 q140 => ?_)
                      obtain ⟨rfl, rfl⟩ := q140
                      show pl _ _ _ (166, [(0, .ref ac), (1, .ref a), (2, .int (nI p)), (3, .int (nI i))], [.int (nI (p + 6 + by4 f (p + 2)))], M107) _
                      refine ps_st (S' := (167, [(2, .int (nI (p + 6 + by4 f (p + 2)))), (0, .ref ac), (1, .ref a), (3, .int (nI i))], [], M107)) rfl rfl rfl ?_
                      refine ps_st (S' := (170, [(3, .int ((nI i) + 1)), (2, .int (nI (p + 6 + by4 f (p + 2)))), (0, .ref ac), (1, .ref a)], [], M107)) rfl rfl rfl ?_
                      rw [nI_add1 (p := i) (k := 1) (x := 1) rfl (by omega)]
                      show pl _ _ _ (_, [(3, .int (nI (i + 1))), (2, .int (nI (p + 6 + by4 f (p + 2)))), (0, .ref ac), (1, .ref a)], [], M107) _
                      refine ps_st (S' := (12, [(0, .ref ac), (1, .ref a), (2, .int (nI (p + 6 + by4 f (p + 2)))), (3, .int (nI (i + 1)))], [], M107)) rfl rfl rfl ?_
                      exact ih (i + 1) (p + 6 + by4 f (p + 2)) ((s'61)) ((K.1 + 1, by2 f (p + 6))) (kn2) M107 h111 h112 h113 h114 h115 h108 hV116 hF117 (by omega) (q51_l) (hq7) (by
                          rw [← hs9, faS_st (i := i) (by omega), hk9, q51_s]
                          dsimp only
                          rw [if_neg (fun h => h.2 hfe)]
                          rw [if_neg (fun h => h.2.2 (by rw [q144_s, n_147]))]) (by
                          rw [← hu, faU_st (i := i) (p := p) (by omega), hk9, stF_s n_110]) (by
                          rw [nw_pop q51_s (by decide), hpc]
                          rfl)
                    · have c_147 : ¬ ((nI (tg f E (by2 f (p + 6)))) = (nI x137)) := of_decide_eq_false c_147
                      have n_147 : ¬ (tg f E (by2 f (p + 6)) = x137) := fun h9 => c_147 ((eq_nI (p := tg f E (by2 f (p + 6))) (n := x137) (Nat.lt_trans (tg_lt _ _ _) (by decide)) (by omega)).mpr h9)
                      refine ps_st (S' := (151, [(0, .ref ac), (1, .ref a), (2, .int (nI p)), (3, .int (nI i)), (4, .int 1)], [.ref ac], M107)) rfl rfl rfl ?_
                      refine ps_get (S' := (154, [(0, .ref ac), (1, .ref a), (2, .int (nI p)), (3, .int (nI i)), (4, .int 1)], [.ref vd], M107)) rfl h111 rfl rfl ?_
                      refine ps_st (S' := (156, [(0, .ref ac), (1, .ref a), (2, .int (nI p)), (3, .int (nI i)), (4, .int 1)], [.int 31, .ref vd], M107)) rfl rfl rfl ?_
                      refine ps_st (S' := (157, [(0, .ref ac), (1, .ref a), (2, .int (nI p)), (3, .int (nI i)), (4, .int 1)], [.int (nI p), .int 31, .ref vd], M107)) rfl rfl rfl ?_
                      refine pl_call (a := [.ref vd, .int 31, .int (nI p)]) (rest := []) rfl rfl rfl (dk_wrong (vd := vd) (ru := ru) (wa := wa) (x1 := 31) (x2 := (nI p)) h115) (fun v141 M142 q143 => ?_)
                      obtain ⟨rfl, h144, f145⟩ := q143
                      have h147 := (f145.1 ac (nin1 (ob_ne h111 h115 (by decide)))).trans h111
                      have h148 := (f145.1 b (nin1 (ob_ne h112 h115 (by decide)))).trans h112
                      have h149 := (f145.1 da (nin1 (Ne.symm (ob_ar h115 h113)))).trans h113
                      have h150 := (f145.1 c (nin1 (ob_ne h114 h115 (by decide)))).trans h114
                      have h151 := (f145.1 a (nin1 (ob_ne h108 h115 (by decide)))).trans h108
                      have hF152 := hF117.tr f145 (by simp)
                      have hV153 := hV116.keep f145.gm (n7c h115 (by decide) (n7nil))
                      show pl _ _ _ (160, [(0, .ref ac), (1, .ref a), (2, .int (nI p)), (3, .int (nI i)), (4, .int 1)], [.int 0], M142) _
                      exact ps_ret rfl rfl (Or.inr ⟨(31, p), by
                          rw [← hs9, faS_st (i := i) (by omega), hk9, q51_s]
                          dsimp only
                          rw [if_neg (fun h => h.2 hfe)]
                          rw [if_pos ⟨by decide, n_110, by rw [q144_s]; exact fun h => n_147 (Option.some.inj h).symm⟩], rfl, h144, hF152⟩)
              · have c_84 : ¬ ((nI x94) = (nI (p + 6 + by4 f (p + 2)))) := of_decide_eq_false c_84
                have n_84 : ¬ (x94 = p + 6 + by4 f (p + 2)) := fun h9 => c_84 ((eq_nI (p := x94) (n := p + 6 + by4 f (p + 2)) (by omega) (by omega)).mpr h9)
                have hfe : ¬ s_fe f 1 (p + 6) (p + 6 + by4 f (p + 2)) = some (p + 6 + by4 f (p + 2)) := by rw [q76_s]; exact fun h => n_84 (Option.some.inj h)
                refine ps_st (S' := (88, [(4, .int 1), (0, .ref ac), (1, .ref a), (2, .int (nI p)), (3, .int (nI i))], [.ref ac], M49)) rfl rfl rfl ?_
                refine ps_get (S' := (91, [(4, .int 1), (0, .ref ac), (1, .ref a), (2, .int (nI p)), (3, .int (nI i))], [.ref vd], M49)) rfl h62 rfl rfl ?_
                refine ps_st (S' := (93, [(4, .int 1), (0, .ref ac), (1, .ref a), (2, .int (nI p)), (3, .int (nI i))], [.int 30, .ref vd], M49)) rfl rfl rfl ?_
                refine ps_st (S' := (94, [(4, .int 1), (0, .ref ac), (1, .ref a), (2, .int (nI p)), (3, .int (nI i))], [.int (nI p), .int 30, .ref vd], M49)) rfl rfl rfl ?_
                refine pl_call (a := [.ref vd, .int 30, .int (nI p)]) (rest := []) rfl rfl rfl (dk_wrong (vd := vd) (ru := ru) (wa := wa) (x1 := 30) (x2 := (nI p)) h63) (fun v154 M155 q156 => ?_)
                obtain ⟨rfl, h157, f158⟩ := q156
                have h160 := (f158.1 ac (nin1 (ob_ne h62 h63 (by decide)))).trans h62
                have h161 := (f158.1 b (nin1 (ob_ne h66 h63 (by decide)))).trans h66
                have h162 := (f158.1 da (nin1 (Ne.symm (ob_ar h63 h67)))).trans h67
                have h163 := (f158.1 c (nin1 (ob_ne h68 h63 (by decide)))).trans h68
                have h164 := (f158.1 a (nin1 (ob_ne h69 h63 (by decide)))).trans h69
                have hF165 := hF70.tr f158 (by simp)
                have hV166 := hV71.keep f158.gm (n7c h63 (by decide) (n7nil))
                show pl _ _ _ (97, [(4, .int 1), (0, .ref ac), (1, .ref a), (2, .int (nI p)), (3, .int (nI i))], [.int 0], M155) _
                exact ps_ret rfl rfl (Or.inr ⟨(30, p), by
                    rw [← hs9, faS_st (i := i) (by omega), hk9, q51_s]
                    dsimp only
                    rw [if_pos ⟨by decide, hfe⟩], rfl, h157, hF165⟩)
  refine ps_st (S' := (1, [(0, .ref ac), (1, .ref a)], [.ref ac], M)) rfl rfl rfl ?_
  refine ps_st (S' := (2, [(0, .ref ac), (1, .ref a)], [.int 0, .ref ac], M)) rfl rfl rfl ?_
  refine ps_put (l' := [.ref c, .ref b, .ref q, .ref vd, .int 0]) rfl h_ac rfl rfl (fun M167 h168 f169 z170 => ?_)
  have h171 := (f169 b (ob_ne h_b h_ac (by decide))).trans h_b
  have h172 := (f169 da (Ne.symm (ob_ar h_ac h_da))).trans h_da
  have h173 := (f169 c (ob_ne h_c h_ac (by decide))).trans h_c
  have h174 := (f169 vd (ob_ne h_vd h_ac (by decide))).trans h_vd
  have h175 := (f169 a (ob_ne h_a h_ac (by decide))).trans h_a
  have hV176 := hV.put h_ac (by decide) f169 z170
  have hF177 := hF.up (by simp) f169 z170
  show pl _ _ _ (5, [(0, .ref ac), (1, .ref a)], [], M167) _
  refine ps_st (S' := (6, [(0, .ref ac), (1, .ref a)], [.ref a], M167)) rfl rfl rfl ?_
  refine ps_get (S' := (9, [(0, .ref ac), (1, .ref a)], [.int (nI (b0 + 8))], M167)) rfl h175 rfl rfl ?_
  refine ps_st (S' := (10, [(2, .int (nI (b0 + 8))), (0, .ref ac), (1, .ref a)], [], M167)) rfl rfl rfl ?_
  refine ps_st (S' := (11, [(2, .int (nI (b0 + 8))), (0, .ref ac), (1, .ref a)], [.int 0], M167)) rfl rfl rfl ?_
  refine ps_st (S' := (12, [(0, .ref ac), (1, .ref a), (2, .int (nI (b0 + 8))), (3, .int 0)], [], M167)) rfl rfl rfl ?_
  exact (LL kf) (0) (b0 + 8) (0) ((0, 0)) (kn) M167 h168 h171 h172 h173 h174 h175 hV176 hF177 (by omega) (by decide) (hat) (rfl) (rfl) (rfl)
set_option maxHeartbeats 1000000 in
theorem dk_ofMethod7 {g : xe_G} {M : mi_H} {f : Nat → Int32} {n N q : Nat} {E : List (Nat × Nat)} {ac c b da vd fr mr fa ic mj na pa : Nat} {mi ru wa s1 k1 k2 k3 k4 k5 k6 k7 : Int32} {a b0 e0 w : Nat} {kn co : Int32} (h_ac : M.1 ac = some (ob 0 [.ref c, .ref b, .ref q, .ref vd, .int s1])) (h_b : M.1 b = some (ob 1 [.ref da])) (h_da : M.1 da = some (ar .byte n f)) (h_c : M.1 c = some (ob 3 [.ref b, .ref q, .int mi, .int (nI mj), .int (nI fa), .int (nI ic), .ref fr, .ref mr, .int (nI na), .int (nI pa), .int k1, .int k2, .int k3, .int k4, .int k5, .int k6, .int k7])) (h_vd : M.1 vd = some (ob 10 [.int ru, .int wa])) (h_a : M.1 a = some (ob 6 [.int (nI b0), .int (nI (by2 f b0)), .int (nI (by2 f (b0 + 2))), .int (nI (by2 f (b0 + 4))), .int (nI (by2 f (b0 + 6))), .int (nI (b0 + 8)), .int kn, .int co, .int (nI w), .int 0, .null])) (hn : n ≤ 65540) (hmj : mj < 65536) (hb1 : b0 + 8 ≤ n) (hat : s_atts f n (by2 f (b0 + 6)) (b0 + 8) = .inr e0) (hw : w < 100000) (hV : PV g f n N E q M) (l_ac : ac < M.2.1) (l_c : c < M.2.1) (l_b : b < M.2.1) (l_da : da < M.2.1) (l_vd : vd < M.2.1) (l_a : a < M.2.1) (l_q : q < M.2.1) : pt (mT g) 40 [.ref ac, .ref a] M (fun v M' => (∃ (h : Nat) (s2 : Int32) (K : Nat × Nat × Nat) (cd2 : Value), (maS f n E mj w (by2 f (b0 + 6)) (b0 + 8) 0 0 = .inr h) ∧ ((h = 0 ∧ cd2 = .null) ∨ (h = 1 ∧ ∃ z9, cd2 = .ref z9)) ∧ (maU f n E (by2 f (b0 + 6)) (b0 + 8) (0, 0, 0) = K) ∧ (CD0 f mj q b K.2.1 cd2 M.2.1 M') ∧ v = some (.int 1) ∧ M'.1 vd = some (ob 10 [.int ru, .int wa]) ∧ M'.1 ac = some (ob 0 [.ref c, .ref b, .ref q, .ref vd, .int s2]) ∧ M'.1 a = some (ob 6 [.int (nI b0), .int (nI (by2 f b0)), .int (nI (by2 f (b0 + 2))), .int (nI (by2 f (b0 + 4))), .int (nI (by2 f (b0 + 6))), .int (nI (b0 + 8)), .int (nI K.1), .int co, .int (nI w), .int (nI K.2.2), cd2]) ∧ gm [ac, vd, a] M M' ∧ M.2.1 ≤ M'.2.1) ∨ (∃ (e9 : Nat × Nat), (maS f n E mj w (by2 f (b0 + 6)) (b0 + 8) 0 0 = .inl e9) ∧ v = some (.int 0) ∧ M'.1 vd = some (ob 10 [.int (nI e9.1), .int (nI e9.2)]) ∧ gm [ac, vd, a] M M' ∧ M.2.1 ≤ M'.2.1)) := by
  refine pt_in (b := mb_40 g) rfl (fun kf => ?_)
  show pl (mT g) kf (mb_40 g).2 (0, [(0, .ref ac), (1, .ref a)], [], M) _
  have hF : gm [ac, vd, a] M M := gm.rf
  obtain ⟨z0, tp0⟩ : ∃ z0, M.2.1 = z0 := ⟨_, rfl⟩
  have hC : CD0 f mj q b 0 .null z0 M := Or.inl ⟨rfl, rfl⟩
  have LL : ∀ (kf : Nat), (∀ (i p s2 h t1 : Nat) (K : Nat × Nat × Nat) (kn2 : Int32) (cd2 : Value) (M1 : mi_H), (M1.1 ac = some (ob 0 [.ref c, .ref b, .ref q, .ref vd, .int (nI s2)])) → (M1.1 b = some (ob 1 [.ref da])) → (M1.1 da = some (ar .byte n f)) → (M1.1 c = some (ob 3 [.ref b, .ref q, .int mi, .int (nI mj), .int (nI fa), .int (nI ic), .ref fr, .ref mr, .int (nI na), .int (nI pa), .int k1, .int k2, .int k3, .int k4, .int k5, .int k6, .int k7])) → (M1.1 vd = some (ob 10 [.int ru, .int wa])) → (M1.1 a = some (ob 6 [.int (nI b0), .int (nI (by2 f b0)), .int (nI (by2 f (b0 + 2))), .int (nI (by2 f (b0 + 4))), .int (nI (by2 f (b0 + 6))), .int (nI (b0 + 8)), .int kn2, .int co, .int (nI w), .int (nI K.2.2), cd2])) → (PV g f n N E q M1) → (CD0 f mj q b K.2.1 cd2 z0 M1) → (gm [ac, vd, a] M M1) → (M1.2.1 = t1) → (z0 ≤ t1) → (i ≤ by2 f (b0 + 6)) → (s2 < 2048) → ((h = 0 ∧ cd2 = .null) ∨ (h = 1 ∧ ∃ z9, cd2 = .ref z9)) → (s_atts f n (by2 f (b0 + 6) - i) p = .inr e0) → (maS f n E mj w (by2 f (b0 + 6) - i) p s2 h = maS f n E mj w (by2 f (b0 + 6)) (b0 + 8) 0 0) → (maU f n E (by2 f (b0 + 6) - i) p K = maU f n E (by2 f (b0 + 6)) (b0 + 8) (0, 0, 0)) → (sb s2 2 + sb s2 3 = K.1) → (8 ≤ p) →  pl (mT g) kf (mb_40 g).2 (12, [(0, .ref ac), (1, .ref a), (2, .int (nI p)), (3, .int (nI i))], [], M1) (fun v M' => (∃ (h : Nat) (s2 : Int32) (K : Nat × Nat × Nat) (cd2 : Value), (maS f n E mj w (by2 f (b0 + 6)) (b0 + 8) 0 0 = .inr h) ∧ ((h = 0 ∧ cd2 = .null) ∨ (h = 1 ∧ ∃ z9, cd2 = .ref z9)) ∧ (maU f n E (by2 f (b0 + 6)) (b0 + 8) (0, 0, 0) = K) ∧ (CD0 f mj q b K.2.1 cd2 M.2.1 M') ∧ v = some (.int 1) ∧ M'.1 vd = some (ob 10 [.int ru, .int wa]) ∧ M'.1 ac = some (ob 0 [.ref c, .ref b, .ref q, .ref vd, .int s2]) ∧ M'.1 a = some (ob 6 [.int (nI b0), .int (nI (by2 f b0)), .int (nI (by2 f (b0 + 2))), .int (nI (by2 f (b0 + 4))), .int (nI (by2 f (b0 + 6))), .int (nI (b0 + 8)), .int (nI K.1), .int co, .int (nI w), .int (nI K.2.2), cd2]) ∧ gm [ac, vd, a] M M' ∧ M.2.1 ≤ M'.2.1) ∨ (∃ (e9 : Nat × Nat), (maS f n E mj w (by2 f (b0 + 6)) (b0 + 8) 0 0 = .inl e9) ∧ v = some (.int 0) ∧ M'.1 vd = some (ob 10 [.int (nI e9.1), .int (nI e9.2)]) ∧ gm [ac, vd, a] M M' ∧ M.2.1 ≤ M'.2.1))) := by
    intro kf
    induction kf with
    | zero => exact (by intros; exact pl_0)
    | succ kf ih =>
      intro i p s2 h t1 K kn2 cd2 M1 hl_ac hl_b hl_da hl_c hl_vd hl_a hV1 hC1 hF1 tp1 ht hi hl hh ha hs9 hu hpc hp8
      have hu9 := by2_lt f (b0 + 6)
      refine ps_st1 (S' := (13, [(0, .ref ac), (1, .ref a), (2, .int (nI p)), (3, .int (nI i))], [.int (nI i)], M1)) rfl rfl rfl ?_
      refine ps_st (S' := (14, [(0, .ref ac), (1, .ref a), (2, .int (nI p)), (3, .int (nI i))], [.ref a, .int (nI i)], M1)) rfl rfl rfl ?_
      refine ps_get (S' := (17, [(0, .ref ac), (1, .ref a), (2, .int (nI p)), (3, .int (nI i))], [.int (nI (by2 f (b0 + 6))), .int (nI i)], M1)) rfl hl_a rfl rfl ?_
      refine ps_if2 (S1 := (154, [(0, .ref ac), (1, .ref a), (2, .int (nI p)), (3, .int (nI i))], [], M1)) (S2 := (20, [(0, .ref ac), (1, .ref a), (2, .int (nI p)), (3, .int (nI i))], [], M1)) rfl rfl rfl (fun c_17 => ?_) (fun c_17 => ?_)
      · have c_17 : (nI (by2 f (b0 + 6))) ≤ (nI i) := of_decide_eq_true c_17
        have n_17 : by2 f (b0 + 6) ≤ i := (le_nI (p := by2 f (b0 + 6)) (n := i) (Nat.lt_trans (by2_lt _ _) (by decide)) (by omega)).mp c_17
        refine ps_st (S' := (155, [(0, .ref ac), (1, .ref a), (2, .int (nI p)), (3, .int (nI i))], [.ref a], M1)) rfl rfl rfl ?_
        refine ps_st (S' := (156, [(0, .ref ac), (1, .ref a), (2, .int (nI p)), (3, .int (nI i))], [.ref ac, .ref a], M1)) rfl rfl rfl ?_
        refine ps_get (S' := (159, [(0, .ref ac), (1, .ref a), (2, .int (nI p)), (3, .int (nI i))], [.int (nI s2), .ref a], M1)) rfl hl_ac rfl rfl ?_
        refine ps_st (S' := (161, [(0, .ref ac), (1, .ref a), (2, .int (nI p)), (3, .int (nI i))], [.int 12, .int (nI s2), .ref a], M1)) rfl rfl rfl ?_
        refine ps_st (S' := (162, [(0, .ref ac), (1, .ref a), (2, .int (nI p)), (3, .int (nI i))], [.int ((nI s2) &&& 12), .ref a], M1)) rfl rfl rfl ?_
        rw [nI_an (p := s2) (k := 12) (x := 12) rfl]
        show pl _ _ _ (_, [(0, .ref ac), (1, .ref a), (2, .int (nI p)), (3, .int (nI i))], [.int (nI (aN s2 12)), .ref a], M1) _
        refine pl_call (a := [.int (nI (aN s2 12))]) (rest := [.ref a]) rfl rfl rfl (dk_bitCountN (y := (aN s2 12)) (Nat.lt_of_le_of_lt (an_le _ _) (by decide))) (fun v1 M2 q3 => ?_)
        obtain ⟨rfl, rfl⟩ := q3
        show pl _ _ _ (165, [(0, .ref ac), (1, .ref a), (2, .int (nI p)), (3, .int (nI i))], [.int (nI (popN (aN s2 12))), .ref a], M1) _
        refine ps_put (l' := [.int (nI b0), .int (nI (by2 f b0)), .int (nI (by2 f (b0 + 2))), .int (nI (by2 f (b0 + 4))), .int (nI (by2 f (b0 + 6))), .int (nI (b0 + 8)), .int (nI (popN (aN s2 12))), .int co, .int (nI w), .int (nI K.2.2), cd2]) rfl hl_a rfl rfl (fun M4 h5 f6 z7 => ?_)
        have h8 := (f6 ac (ob_ne hl_ac hl_a (by decide))).trans hl_ac
        have h9 := (f6 b (ob_ne hl_b hl_a (by decide))).trans hl_b
        have h10 := (f6 da (Ne.symm (ob_ar hl_a hl_da))).trans hl_da
        have h11 := (f6 c (ob_ne hl_c hl_a (by decide))).trans hl_c
        have h12 := (f6 vd (ob_ne hl_vd hl_a (by decide))).trans hl_vd
        have hV13 := hV1.put hl_a (by decide) f6 z7
        have hV14 := hC1.put hl_a (by decide) f6 z7
        have hF15 := hF1.up (Or.inl (by simp)) f6 (by rw [z7]; exact Nat.le_refl _)
        have tp16 : M4.2.1 = t1 := by rw [z7]; exact tp1
        show pl _ _ _ (168, [(0, .ref ac), (1, .ref a), (2, .int (nI p)), (3, .int (nI i))], [], M4) _
        refine ps_st (S' := (169, [(0, .ref ac), (1, .ref a), (2, .int (nI p)), (3, .int (nI i))], [.int 1], M4)) rfl rfl rfl ?_
        exact ps_ret rfl rfl (Or.inl ⟨h, _, K, _, by rw [← hs9, show by2 f (b0 + 6) - i = 0 by omega]; rfl, hh, by rw [← hu, show by2 f (b0 + 6) - i = 0 by omega]; rfl, by rw [tp0]; exact hV14, rfl, h12, h8, by rw [← hpc, ← pop_12 s2 hl]; exact h5, hF15, hF15.2⟩)
      · have c_17 : ¬ ((nI (by2 f (b0 + 6))) ≤ (nI i)) := of_decide_eq_false c_17
        have n_17 : ¬ (by2 f (b0 + 6) ≤ i) := fun h9 => c_17 ((le_nI (p := by2 f (b0 + 6)) (n := i) (Nat.lt_trans (by2_lt _ _) (by decide)) (by omega)).mpr h9)
        obtain ⟨hq5, hq6, hq7⟩ := s_atts_in (i := i) (p := p) ha (by omega)
        refine ps_st (S' := (21, [(0, .ref ac), (1, .ref a), (2, .int (nI p)), (3, .int (nI i))], [.ref ac], M1)) rfl rfl rfl ?_
        refine ps_st (S' := (22, [(0, .ref ac), (1, .ref a), (2, .int (nI p)), (3, .int (nI i))], [.ref ac, .ref ac], M1)) rfl rfl rfl ?_
        refine ps_get (S' := (25, [(0, .ref ac), (1, .ref a), (2, .int (nI p)), (3, .int (nI i))], [.ref b, .ref ac], M1)) rfl hl_ac rfl rfl ?_
        refine ps_st (S' := (26, [(0, .ref ac), (1, .ref a), (2, .int (nI p)), (3, .int (nI i))], [.int (nI p), .ref b, .ref ac], M1)) rfl rfl rfl ?_
        refine pl_call (a := [.ref b, .int (nI p)]) (rest := [.ref ac]) rfl rfl rfl (dk_u2 (f := f) (n := n) (b := b) (da := da) (p := p) hl_b hl_da (hn) (by omega)) (fun v17 M18 q19 => ?_)
        obtain ⟨rfl, rfl⟩ := q19
        show pl _ _ _ (29, [(0, .ref ac), (1, .ref a), (2, .int (nI p)), (3, .int (nI i))], [.int (nI (by2 f p)), .ref ac], M1) _
        have hu_26 := by2_lt f p
        refine pl_call (a := [.ref ac, .int (nI (by2 f p))]) (rest := []) rfl rfl rfl (dk_methodKind (f := f) (n := n) (N := N) (q := q) (E := E) (ac := ac) (c := c) (b := b) (da := da) (vd := vd) (fr := fr) (mr := mr) (fa := fa) (ic := ic) (mj := mj) (na := na) (pa := pa) (mi := mi) (ru := ru) (wa := wa) (s1 := (nI s2)) (k1 := k1) (k2 := k2) (k3 := k3) (k4 := k4) (k5 := k5) (k6 := k6) (k7 := k7) (x := (by2 f p)) hl_ac hl_b hl_da (hn) (by2_lt _ _) (hV1)) (fun v20 M21 q22 => ?_)
        obtain ⟨rfl, rfl⟩ := q22
        show pl _ _ _ (32, [(0, .ref ac), (1, .ref a), (2, .int (nI p)), (3, .int (nI i))], [.int (nI (mkN f n E (by2 f p)))], M1) _
        have hk8 := le_mk f n E (by2 f p)
        have hk7 := mk_3 f n E (by2 f p)
        refine ps_st (S' := (34, [(4, .int (nI (mkN f n E (by2 f p)))), (0, .ref ac), (1, .ref a), (2, .int (nI p)), (3, .int (nI i))], [], M1)) rfl rfl rfl ?_
        refine ps_st (S' := (35, [(4, .int (nI (mkN f n E (by2 f p)))), (0, .ref ac), (1, .ref a), (2, .int (nI p)), (3, .int (nI i))], [.ref ac], M1)) rfl rfl rfl ?_
        refine ps_st (S' := (36, [(4, .int (nI (mkN f n E (by2 f p)))), (0, .ref ac), (1, .ref a), (2, .int (nI p)), (3, .int (nI i))], [.int (nI p), .ref ac], M1)) rfl rfl rfl ?_
        refine ps_st (S' := (38, [(4, .int (nI (mkN f n E (by2 f p)))), (0, .ref ac), (1, .ref a), (2, .int (nI p)), (3, .int (nI i))], [.int (nI (mkN f n E (by2 f p))), .int (nI p), .ref ac], M1)) rfl rfl rfl ?_
        refine pl_call (a := [.ref ac, .int (nI p), .int (nI (mkN f n E (by2 f p)))]) (rest := []) rfl rfl rfl (dk_isNew (f := f) (n := n) (N := N) (q := q) (E := E) (ac := ac) (c := c) (b := b) (da := da) (vd := vd) (fr := fr) (mr := mr) (fa := fa) (ic := ic) (mj := mj) (na := na) (pa := pa) (mi := mi) (ru := ru) (wa := wa) (k1 := k1) (k2 := k2) (k3 := k3) (k4 := k4) (k5 := k5) (k6 := k6) (k7 := k7) (s := s2) (k := (mkN f n E (by2 f p))) (p := p) hl_ac hl_b hl_da hl_vd (hn) (by omega) (by omega) (by omega) (hV1)) (fun v23 M24 q25 => ?_)
        rcases q25 with q25 | q25
        · skip
          obtain ⟨e26, q38_s, rfl, h27, f28⟩ := q25
          have h30 := (f28.1 b (nin2 (ob_ne hl_b hl_ac (by decide)) (ob_ne hl_b hl_vd (by decide)))).trans hl_b
          have h31 := (f28.1 da (nin2 (Ne.symm (ob_ar hl_ac hl_da)) (Ne.symm (ob_ar hl_vd hl_da)))).trans hl_da
          have h32 := (f28.1 c (nin2 (ob_ne hl_c hl_ac (by decide)) (ob_ne hl_c hl_vd (by decide)))).trans hl_c
          have h33 := (f28.1 a (nin2 (ob_ne hl_a hl_ac (by decide)) (ob_ne hl_a hl_vd (by decide)))).trans hl_a
          have hF34 := hF1.trf f28 (by intro z hz; simp only [List.mem_cons, List.not_mem_nil, or_false] at hz ⊢; try omega)
          have tp35 : M24.2.1 = t1 := by rw [f28.2]; exact tp1
          have hV36 := hV1.keep f28.gm (n7c hl_ac (by decide) (n7c hl_vd (by decide) (n7nil)))
          have hV37 := hC1.keep f28.gm (nCc hl_ac (by decide) (nCc hl_vd (by decide) (nCn)))
          show pl _ _ _ (41, [(4, .int (nI (mkN f n E (by2 f p)))), (0, .ref ac), (1, .ref a), (2, .int (nI p)), (3, .int (nI i))], [.int 0], M24) _
          refine ps_if (S1 := (46, [(4, .int (nI (mkN f n E (by2 f p)))), (0, .ref ac), (1, .ref a), (2, .int (nI p)), (3, .int (nI i))], [], M24)) (S2 := (44, [(4, .int (nI (mkN f n E (by2 f p)))), (0, .ref ac), (1, .ref a), (2, .int (nI p)), (3, .int (nI i))], [], M24)) rfl rfl rfl (fun c_41 => ?_) (fun c_41 => ?_)
          · exact absurd (of_decide_eq_true c_41) (by decide)
          refine ps_st (S' := (45, [(4, .int (nI (mkN f n E (by2 f p)))), (0, .ref ac), (1, .ref a), (2, .int (nI p)), (3, .int (nI i))], [.int 0], M24)) rfl rfl rfl ?_
          exact ps_ret rfl rfl (Or.inr ⟨e26, by
              rw [← hs9, maS_st (i := i) (by omega), q38_s], rfl, h27, hF34, hF34.2⟩)
        · skip
          obtain ⟨s'38, q38_s, q38_l, rfl, h39, h40, f41⟩ := q25
          have h43 := (f41.1 b (nin2 (ob_ne hl_b hl_ac (by decide)) (ob_ne hl_b hl_vd (by decide)))).trans hl_b
          have h44 := (f41.1 da (nin2 (Ne.symm (ob_ar hl_ac hl_da)) (Ne.symm (ob_ar hl_vd hl_da)))).trans hl_da
          have h45 := (f41.1 c (nin2 (ob_ne hl_c hl_ac (by decide)) (ob_ne hl_c hl_vd (by decide)))).trans hl_c
          have h46 := (f41.1 a (nin2 (ob_ne hl_a hl_ac (by decide)) (ob_ne hl_a hl_vd (by decide)))).trans hl_a
          have hF47 := hF1.trf f41 (by intro z hz; simp only [List.mem_cons, List.not_mem_nil, or_false] at hz ⊢; try omega)
          have tp48 : M24.2.1 = t1 := by rw [f41.2]; exact tp1
          have hV49 := hV1.keep f41.gm (n7c hl_ac (by decide) (n7c hl_vd (by decide) (n7nil)))
          have hV50 := hC1.keep f41.gm (nCc hl_ac (by decide) (nCc hl_vd (by decide) (nCn)))
          show pl _ _ _ (41, [(4, .int (nI (mkN f n E (by2 f p)))), (0, .ref ac), (1, .ref a), (2, .int (nI p)), (3, .int (nI i))], [.int 1], M24) _
          refine ps_if (S1 := (46, [(4, .int (nI (mkN f n E (by2 f p)))), (0, .ref ac), (1, .ref a), (2, .int (nI p)), (3, .int (nI i))], [], M24)) (S2 := (44, [(4, .int (nI (mkN f n E (by2 f p)))), (0, .ref ac), (1, .ref a), (2, .int (nI p)), (3, .int (nI i))], [], M24)) rfl rfl rfl (fun c_41 => ?_) (fun c_41 => ?_)
          rotate_left
          · exact absurd (by decide) (of_decide_eq_false c_41)
          refine ps_st (S' := (48, [(4, .int (nI (mkN f n E (by2 f p)))), (0, .ref ac), (1, .ref a), (2, .int (nI p)), (3, .int (nI i))], [.int (nI (mkN f n E (by2 f p)))], M24)) rfl rfl rfl ?_
          refine ps_if (S1 := (85, [(0, .ref ac), (1, .ref a), (2, .int (nI p)), (3, .int (nI i)), (4, .int (nI (mkN f n E (by2 f p))))], [], M24)) (S2 := (51, [(4, .int (nI (mkN f n E (by2 f p)))), (0, .ref ac), (1, .ref a), (2, .int (nI p)), (3, .int (nI i))], [], M24)) rfl rfl rfl (fun c_48 => ?_) (fun c_48 => ?_)
          · have c_48 : (nI (mkN f n E (by2 f p))) = 0 := of_decide_eq_true c_48
            have n_48 : mkN f n E (by2 f p) = 0 := (eq_nI (p := mkN f n E (by2 f p)) (n := 0) (Nat.lt_trans (le_mk _ _ _ _) (by decide)) (by decide)).mp c_48
            refine ps_st (S' := (87, [(0, .ref ac), (1, .ref a), (2, .int (nI p)), (3, .int (nI i)), (4, .int (nI (mkN f n E (by2 f p))))], [.int (nI (mkN f n E (by2 f p)))], M24)) rfl rfl rfl ?_
            refine ps_st (S' := (88, [(0, .ref ac), (1, .ref a), (2, .int (nI p)), (3, .int (nI i)), (4, .int (nI (mkN f n E (by2 f p))))], [.int 2, .int (nI (mkN f n E (by2 f p)))], M24)) rfl rfl rfl ?_
            refine ps_if2 (S1 := (102, [(0, .ref ac), (1, .ref a), (2, .int (nI p)), (3, .int (nI i)), (4, .int (nI (mkN f n E (by2 f p))))], [], M24)) (S2 := (91, [(0, .ref ac), (1, .ref a), (2, .int (nI p)), (3, .int (nI i)), (4, .int (nI (mkN f n E (by2 f p))))], [], M24)) rfl rfl rfl (fun c_88 => ?_) (fun c_88 => ?_)
            rotate_left
            · exact absurd (show ¬ ((nI (mkN f n E (by2 f p))) = 2) from fun h9 => absurd ((eq_nI (p := mkN f n E (by2 f p)) (n := 2) (Nat.lt_trans (le_mk _ _ _ _) (by decide)) (by decide)).mp h9) (by omega)) (of_decide_eq_false c_88)
            refine ps_st (S' := (104, [(0, .ref ac), (1, .ref a), (2, .int (nI p)), (3, .int (nI i)), (4, .int (nI (mkN f n E (by2 f p))))], [.int (nI (mkN f n E (by2 f p)))], M24)) rfl rfl rfl ?_
            refine ps_st (S' := (105, [(0, .ref ac), (1, .ref a), (2, .int (nI p)), (3, .int (nI i)), (4, .int (nI (mkN f n E (by2 f p))))], [.int 3, .int (nI (mkN f n E (by2 f p)))], M24)) rfl rfl rfl ?_
            refine ps_if2 (S1 := (142, [(0, .ref ac), (1, .ref a), (2, .int (nI p)), (3, .int (nI i))], [], M24)) (S2 := (108, [(0, .ref ac), (1, .ref a), (2, .int (nI p)), (3, .int (nI i)), (4, .int (nI (mkN f n E (by2 f p))))], [], M24)) rfl rfl rfl (fun c_105 => ?_) (fun c_105 => ?_)
            rotate_left
            · exact absurd (show ¬ ((nI (mkN f n E (by2 f p))) = 3) from fun h9 => absurd ((eq_nI (p := mkN f n E (by2 f p)) (n := 3) (Nat.lt_trans (le_mk _ _ _ _) (by decide)) (by decide)).mp h9) (by omega)) (of_decide_eq_false c_105)
            refine ps_st (S' := (143, [(0, .ref ac), (1, .ref a), (2, .int (nI p)), (3, .int (nI i))], [.ref ac], M24)) rfl rfl rfl ?_
            refine ps_st (S' := (144, [(0, .ref ac), (1, .ref a), (2, .int (nI p)), (3, .int (nI i))], [.int (nI p), .ref ac], M24)) rfl rfl rfl ?_
            refine pl_call (a := [.ref ac, .int (nI p)]) (rest := []) rfl rfl rfl (dk_behind (f := f) (n := n) (q := q) (ac := ac) (c := c) (b := b) (da := da) (vd := vd) (s1 := (nI s'38)) (p := p) h39 h43 h44 (hn) (by omega)) (fun v51 M52 q53 => ?_)
            obtain ⟨rfl, rfl⟩ := q53
            show pl _ _ _ (147, [(0, .ref ac), (1, .ref a), (2, .int (nI p)), (3, .int (nI i))], [.int (nI (p + 6 + by4 f (p + 2)))], M24) _
            refine ps_st (S' := (148, [(2, .int (nI (p + 6 + by4 f (p + 2)))), (0, .ref ac), (1, .ref a), (3, .int (nI i))], [], M24)) rfl rfl rfl ?_
            refine ps_st (S' := (151, [(3, .int ((nI i) + 1)), (2, .int (nI (p + 6 + by4 f (p + 2)))), (0, .ref ac), (1, .ref a)], [], M24)) rfl rfl rfl ?_
            rw [nI_add1 (p := i) (k := 1) (x := 1) rfl (by omega)]
            show pl _ _ _ (_, [(3, .int (nI (i + 1))), (2, .int (nI (p + 6 + by4 f (p + 2)))), (0, .ref ac), (1, .ref a)], [], M24) _
            refine ps_st (S' := (12, [(0, .ref ac), (1, .ref a), (2, .int (nI (p + 6 + by4 f (p + 2)))), (3, .int (nI (i + 1)))], [], M24)) rfl rfl rfl ?_
            exact ih (i + 1) (p + 6 + by4 f (p + 2)) ((s'38)) (h) (t1) (K) (kn2) (cd2) M24 h39 h43 h44 h45 h40 h46 hV49 hV50 hF47 (tp48) (by omega) (by omega) (q38_l) (hh) (hq7) (by
                rw [← hs9, maS_st (i := i) (by omega), q38_s]
                dsimp only
                rw [if_neg (fun h => h.1 n_48), if_neg (by omega), if_neg (by omega)]) (by
                rw [← hu, maU_st (i := i) (p := p) (by omega), n_48, stM_0]) (by rw [nw_two q38_s (mk_3 _ _ _ _), if_pos n_48, hpc]) (by omega)
          · have c_48 : ¬ ((nI (mkN f n E (by2 f p))) = 0) := of_decide_eq_false c_48
            have n_48 : ¬ (mkN f n E (by2 f p) = 0) := fun h9 => c_48 ((eq_nI (p := mkN f n E (by2 f p)) (n := 0) (Nat.lt_trans (le_mk _ _ _ _) (by decide)) (by decide)).mpr h9)
            refine ps_st (S' := (52, [(4, .int (nI (mkN f n E (by2 f p)))), (0, .ref ac), (1, .ref a), (2, .int (nI p)), (3, .int (nI i))], [.ref ac], M24)) rfl rfl rfl ?_
            refine ps_st (S' := (54, [(4, .int (nI (mkN f n E (by2 f p)))), (0, .ref ac), (1, .ref a), (2, .int (nI p)), (3, .int (nI i))], [.int (nI (mkN f n E (by2 f p))), .ref ac], M24)) rfl rfl rfl ?_
            refine ps_st (S' := (55, [(4, .int (nI (mkN f n E (by2 f p)))), (0, .ref ac), (1, .ref a), (2, .int (nI p)), (3, .int (nI i))], [.int (nI p), .int (nI (mkN f n E (by2 f p))), .ref ac], M24)) rfl rfl rfl ?_
            refine ps_st (S' := (57, [(4, .int (nI (mkN f n E (by2 f p)))), (0, .ref ac), (1, .ref a), (2, .int (nI p)), (3, .int (nI i))], [.int 6, .int (nI p), .int (nI (mkN f n E (by2 f p))), .ref ac], M24)) rfl rfl rfl ?_
            refine ps_st (S' := (58, [(4, .int (nI (mkN f n E (by2 f p)))), (0, .ref ac), (1, .ref a), (2, .int (nI p)), (3, .int (nI i))], [.int ((nI p) + 6), .int (nI (mkN f n E (by2 f p))), .ref ac], M24)) rfl rfl rfl ?_
            rw [nI_add1 (p := p) (k := 6) (x := 6) rfl (by omega)]
            show pl _ _ _ (_, [(4, .int (nI (mkN f n E (by2 f p)))), (0, .ref ac), (1, .ref a), (2, .int (nI p)), (3, .int (nI i))], [.int (nI (p + 6)), .int (nI (mkN f n E (by2 f p))), .ref ac], M24) _
            refine ps_st (S' := (59, [(4, .int (nI (mkN f n E (by2 f p)))), (0, .ref ac), (1, .ref a), (2, .int (nI p)), (3, .int (nI i))], [.ref ac, .int (nI (p + 6)), .int (nI (mkN f n E (by2 f p))), .ref ac], M24)) rfl rfl rfl ?_
            refine ps_st (S' := (60, [(4, .int (nI (mkN f n E (by2 f p)))), (0, .ref ac), (1, .ref a), (2, .int (nI p)), (3, .int (nI i))], [.int (nI p), .ref ac, .int (nI (p + 6)), .int (nI (mkN f n E (by2 f p))), .ref ac], M24)) rfl rfl rfl ?_
            refine pl_call (a := [.ref ac, .int (nI p)]) (rest := [.int (nI (p + 6)), .int (nI (mkN f n E (by2 f p))), .ref ac]) rfl rfl rfl (dk_behind (f := f) (n := n) (q := q) (ac := ac) (c := c) (b := b) (da := da) (vd := vd) (s1 := (nI s'38)) (p := p) h39 h43 h44 (hn) (by omega)) (fun v54 M55 q56 => ?_)
            obtain ⟨rfl, rfl⟩ := q56
            show pl _ _ _ (63, [(4, .int (nI (mkN f n E (by2 f p)))), (0, .ref ac), (1, .ref a), (2, .int (nI p)), (3, .int (nI i))], [.int (nI (p + 6 + by4 f (p + 2))), .int (nI (p + 6)), .int (nI (mkN f n E (by2 f p))), .ref ac], M24) _
            refine pl_call (a := [.ref ac, .int (nI (mkN f n E (by2 f p))), .int (nI (p + 6)), .int (nI (p + 6 + by4 f (p + 2)))]) (rest := []) rfl rfl rfl (dk_formEnd (f := f) (n := n) (q := q) (ac := ac) (c := c) (b := b) (da := da) (vd := vd) (s1 := (nI s'38)) (k := (mkN f n E (by2 f p))) (p0 := (p + 6)) (e := (p + 6 + by4 f (p + 2))) h39 h43 h44 (hn) (by omega) (by omega)) (fun v57 M58 q59 => ?_)
            rcases q59 with q59 | q59
            · skip
              obtain ⟨q63_s, rfl, rfl⟩ := q59
              show pl _ _ _ (66, [(4, .int (nI (mkN f n E (by2 f p)))), (0, .ref ac), (1, .ref a), (2, .int (nI p)), (3, .int (nI i))], [.int (-1)], M24) _
              refine ps_st (S' := (67, [(4, .int (nI (mkN f n E (by2 f p)))), (0, .ref ac), (1, .ref a), (2, .int (nI p)), (3, .int (nI i))], [.ref ac, .int (-1)], M24)) rfl rfl rfl ?_
              refine ps_st (S' := (68, [(4, .int (nI (mkN f n E (by2 f p)))), (0, .ref ac), (1, .ref a), (2, .int (nI p)), (3, .int (nI i))], [.int (nI p), .ref ac, .int (-1)], M24)) rfl rfl rfl ?_
              refine pl_call (a := [.ref ac, .int (nI p)]) (rest := [.int (-1)]) rfl rfl rfl (dk_behind (f := f) (n := n) (q := q) (ac := ac) (c := c) (b := b) (da := da) (vd := vd) (s1 := (nI s'38)) (p := p) h39 h43 h44 (hn) (by omega)) (fun v60 M61 q62 => ?_)
              obtain ⟨rfl, rfl⟩ := q62
              show pl _ _ _ (71, [(4, .int (nI (mkN f n E (by2 f p)))), (0, .ref ac), (1, .ref a), (2, .int (nI p)), (3, .int (nI i))], [.int (nI (p + 6 + by4 f (p + 2))), .int (-1)], M24) _
              refine ps_if2 (S1 := (85, [(0, .ref ac), (1, .ref a), (2, .int (nI p)), (3, .int (nI i)), (4, .int (nI (mkN f n E (by2 f p))))], [], M24)) (S2 := (74, [(4, .int (nI (mkN f n E (by2 f p)))), (0, .ref ac), (1, .ref a), (2, .int (nI p)), (3, .int (nI i))], [], M24)) rfl rfl rfl (fun c_71 => ?_) (fun c_71 => ?_)
              · exact absurd (of_decide_eq_true c_71) (m1_ne (by omega))
              have hfe : ¬ s_fe f (mkN f n E (by2 f p)) (p + 6) (p + 6 + by4 f (p + 2)) = some (p + 6 + by4 f (p + 2)) := by rw [q63_s]; exact fun h => by cases h
              refine ps_st (S' := (75, [(4, .int (nI (mkN f n E (by2 f p)))), (0, .ref ac), (1, .ref a), (2, .int (nI p)), (3, .int (nI i))], [.ref ac], M24)) rfl rfl rfl ?_
              refine ps_get (S' := (78, [(4, .int (nI (mkN f n E (by2 f p)))), (0, .ref ac), (1, .ref a), (2, .int (nI p)), (3, .int (nI i))], [.ref vd], M24)) rfl h39 rfl rfl ?_
              refine ps_st (S' := (80, [(4, .int (nI (mkN f n E (by2 f p)))), (0, .ref ac), (1, .ref a), (2, .int (nI p)), (3, .int (nI i))], [.int 30, .ref vd], M24)) rfl rfl rfl ?_
              refine ps_st (S' := (81, [(4, .int (nI (mkN f n E (by2 f p)))), (0, .ref ac), (1, .ref a), (2, .int (nI p)), (3, .int (nI i))], [.int (nI p), .int 30, .ref vd], M24)) rfl rfl rfl ?_
              refine pl_call (a := [.ref vd, .int 30, .int (nI p)]) (rest := []) rfl rfl rfl (dk_wrong (vd := vd) (ru := ru) (wa := wa) (x1 := 30) (x2 := (nI p)) h40) (fun v63 M64 q65 => ?_)
              obtain ⟨rfl, h66, f67⟩ := q65
              have h69 := (f67.1 ac (nin1 (ob_ne h39 h40 (by decide)))).trans h39
              have h70 := (f67.1 b (nin1 (ob_ne h43 h40 (by decide)))).trans h43
              have h71 := (f67.1 da (nin1 (Ne.symm (ob_ar h40 h44)))).trans h44
              have h72 := (f67.1 c (nin1 (ob_ne h45 h40 (by decide)))).trans h45
              have h73 := (f67.1 a (nin1 (ob_ne h46 h40 (by decide)))).trans h46
              have hF74 := hF47.trf f67 (by intro z hz; simp only [List.mem_cons, List.not_mem_nil, or_false] at hz ⊢; try omega)
              have tp75 : M64.2.1 = t1 := by rw [f67.2]; exact tp48
              have hV76 := hV49.keep f67.gm (n7c h40 (by decide) (n7nil))
              have hV77 := hV50.keep f67.gm (nCc h40 (by decide) (nCn))
              show pl _ _ _ (84, [(4, .int (nI (mkN f n E (by2 f p)))), (0, .ref ac), (1, .ref a), (2, .int (nI p)), (3, .int (nI i))], [.int 0], M64) _
              exact ps_ret rfl rfl (Or.inr ⟨(30, p), by
                  rw [← hs9, maS_st (i := i) (by omega), q38_s]
                  dsimp only
                  rw [if_pos ⟨n_48, hfe⟩], rfl, h66, hF74, hF74.2⟩)
            · skip
              obtain ⟨x78, q63_s, q63_l, rfl, rfl⟩ := q59
              show pl _ _ _ (66, [(4, .int (nI (mkN f n E (by2 f p)))), (0, .ref ac), (1, .ref a), (2, .int (nI p)), (3, .int (nI i))], [.int (nI x78)], M24) _
              refine ps_st (S' := (67, [(4, .int (nI (mkN f n E (by2 f p)))), (0, .ref ac), (1, .ref a), (2, .int (nI p)), (3, .int (nI i))], [.ref ac, .int (nI x78)], M24)) rfl rfl rfl ?_
              refine ps_st (S' := (68, [(4, .int (nI (mkN f n E (by2 f p)))), (0, .ref ac), (1, .ref a), (2, .int (nI p)), (3, .int (nI i))], [.int (nI p), .ref ac, .int (nI x78)], M24)) rfl rfl rfl ?_
              refine pl_call (a := [.ref ac, .int (nI p)]) (rest := [.int (nI x78)]) rfl rfl rfl (dk_behind (f := f) (n := n) (q := q) (ac := ac) (c := c) (b := b) (da := da) (vd := vd) (s1 := (nI s'38)) (p := p) h39 h43 h44 (hn) (by omega)) (fun v79 M80 q81 => ?_)
              obtain ⟨rfl, rfl⟩ := q81
              show pl _ _ _ (71, [(4, .int (nI (mkN f n E (by2 f p)))), (0, .ref ac), (1, .ref a), (2, .int (nI p)), (3, .int (nI i))], [.int (nI (p + 6 + by4 f (p + 2))), .int (nI x78)], M24) _
              refine ps_if2 (S1 := (85, [(0, .ref ac), (1, .ref a), (2, .int (nI p)), (3, .int (nI i)), (4, .int (nI (mkN f n E (by2 f p))))], [], M24)) (S2 := (74, [(4, .int (nI (mkN f n E (by2 f p)))), (0, .ref ac), (1, .ref a), (2, .int (nI p)), (3, .int (nI i))], [], M24)) rfl rfl rfl (fun c_71 => ?_) (fun c_71 => ?_)
              · have c_71 : (nI x78) = (nI (p + 6 + by4 f (p + 2))) := of_decide_eq_true c_71
                have n_71 : x78 = p + 6 + by4 f (p + 2) := (eq_nI (p := x78) (n := p + 6 + by4 f (p + 2)) (by omega) (by omega)).mp c_71
                have hfe : s_fe f (mkN f n E (by2 f p)) (p + 6) (p + 6 + by4 f (p + 2)) = some (p + 6 + by4 f (p + 2)) := by rw [q63_s, n_71]
                have hb8 := (s_fe_in hfe).1
                refine ps_st (S' := (87, [(0, .ref ac), (1, .ref a), (2, .int (nI p)), (3, .int (nI i)), (4, .int (nI (mkN f n E (by2 f p))))], [.int (nI (mkN f n E (by2 f p)))], M24)) rfl rfl rfl ?_
                refine ps_st (S' := (88, [(0, .ref ac), (1, .ref a), (2, .int (nI p)), (3, .int (nI i)), (4, .int (nI (mkN f n E (by2 f p))))], [.int 2, .int (nI (mkN f n E (by2 f p)))], M24)) rfl rfl rfl ?_
                refine ps_if2 (S1 := (102, [(0, .ref ac), (1, .ref a), (2, .int (nI p)), (3, .int (nI i)), (4, .int (nI (mkN f n E (by2 f p))))], [], M24)) (S2 := (91, [(0, .ref ac), (1, .ref a), (2, .int (nI p)), (3, .int (nI i)), (4, .int (nI (mkN f n E (by2 f p))))], [], M24)) rfl rfl rfl (fun c_88 => ?_) (fun c_88 => ?_)
                · have c_88 : ¬ (nI (mkN f n E (by2 f p))) = 2 := of_decide_eq_true c_88
                  have n_88 : ¬ (mkN f n E (by2 f p) = 2) := fun h9 => c_88 ((eq_nI (p := mkN f n E (by2 f p)) (n := 2) (Nat.lt_trans (le_mk _ _ _ _) (by decide)) (by decide)).mpr h9)
                  have hk3 : mkN f n E (by2 f p) = 3 := by omega
                  refine ps_st (S' := (104, [(0, .ref ac), (1, .ref a), (2, .int (nI p)), (3, .int (nI i)), (4, .int (nI (mkN f n E (by2 f p))))], [.int (nI (mkN f n E (by2 f p)))], M24)) rfl rfl rfl ?_
                  refine ps_st (S' := (105, [(0, .ref ac), (1, .ref a), (2, .int (nI p)), (3, .int (nI i)), (4, .int (nI (mkN f n E (by2 f p))))], [.int 3, .int (nI (mkN f n E (by2 f p)))], M24)) rfl rfl rfl ?_
                  refine ps_if2 (S1 := (142, [(0, .ref ac), (1, .ref a), (2, .int (nI p)), (3, .int (nI i))], [], M24)) (S2 := (108, [(0, .ref ac), (1, .ref a), (2, .int (nI p)), (3, .int (nI i)), (4, .int (nI (mkN f n E (by2 f p))))], [], M24)) rfl rfl rfl (fun c_105 => ?_) (fun c_105 => ?_)
                  · exact absurd (of_decide_eq_true c_105) (fun h9 => h9 (congrArg nI hk3))
                  refine ps_st (S' := (109, [(0, .ref ac), (1, .ref a), (2, .int (nI p)), (3, .int (nI i)), (4, .int (nI (mkN f n E (by2 f p))))], [.ref a], M24)) rfl rfl rfl ?_
                  refine ps_st (S' := (110, [(0, .ref ac), (1, .ref a), (2, .int (nI p)), (3, .int (nI i)), (4, .int (nI (mkN f n E (by2 f p))))], [.ref ac, .ref a], M24)) rfl rfl rfl ?_
                  refine ps_get (S' := (113, [(0, .ref ac), (1, .ref a), (2, .int (nI p)), (3, .int (nI i)), (4, .int (nI (mkN f n E (by2 f p))))], [.ref b, .ref a], M24)) rfl h39 rfl rfl ?_
                  refine ps_st (S' := (114, [(0, .ref ac), (1, .ref a), (2, .int (nI p)), (3, .int (nI i)), (4, .int (nI (mkN f n E (by2 f p))))], [.int (nI p), .ref b, .ref a], M24)) rfl rfl rfl ?_
                  refine ps_st (S' := (116, [(0, .ref ac), (1, .ref a), (2, .int (nI p)), (3, .int (nI i)), (4, .int (nI (mkN f n E (by2 f p))))], [.int 6, .int (nI p), .ref b, .ref a], M24)) rfl rfl rfl ?_
                  refine ps_st (S' := (117, [(0, .ref ac), (1, .ref a), (2, .int (nI p)), (3, .int (nI i)), (4, .int (nI (mkN f n E (by2 f p))))], [.int ((nI p) + 6), .ref b, .ref a], M24)) rfl rfl rfl ?_
                  rw [nI_add1 (p := p) (k := 6) (x := 6) rfl (by omega)]
                  show pl _ _ _ (_, [(0, .ref ac), (1, .ref a), (2, .int (nI p)), (3, .int (nI i)), (4, .int (nI (mkN f n E (by2 f p))))], [.int (nI (p + 6)), .ref b, .ref a], M24) _
                  refine pl_call (a := [.ref b, .int (nI (p + 6))]) (rest := [.ref a]) rfl rfl rfl (dk_u2 (f := f) (n := n) (b := b) (da := da) (p := (p + 6)) h43 h44 (hn) (by omega)) (fun v82 M83 q84 => ?_)
                  obtain ⟨rfl, rfl⟩ := q84
                  show pl _ _ _ (120, [(0, .ref ac), (1, .ref a), (2, .int (nI p)), (3, .int (nI i)), (4, .int (nI (mkN f n E (by2 f p))))], [.int (nI (by2 f (p + 6))), .ref a], M24) _
                  have hu_117 := by2_lt f (p + 6)
                  refine ps_put (l' := [.int (nI b0), .int (nI (by2 f b0)), .int (nI (by2 f (b0 + 2))), .int (nI (by2 f (b0 + 4))), .int (nI (by2 f (b0 + 6))), .int (nI (b0 + 8)), .int kn2, .int co, .int (nI w), .int (nI (by2 f (p + 6))), cd2]) rfl h46 rfl rfl (fun M85 h86 f87 z88 => ?_)
                  have h89 := (f87 ac (ob_ne h39 h46 (by decide))).trans h39
                  have h90 := (f87 b (ob_ne h43 h46 (by decide))).trans h43
                  have h91 := (f87 da (Ne.symm (ob_ar h46 h44))).trans h44
                  have h92 := (f87 c (ob_ne h45 h46 (by decide))).trans h45
                  have h93 := (f87 vd (ob_ne h40 h46 (by decide))).trans h40
                  have hV94 := hV49.put h46 (by decide) f87 z88
                  have hV95 := hV50.put h46 (by decide) f87 z88
                  have hF96 := hF47.up (Or.inl (by simp)) f87 (by rw [z88]; exact Nat.le_refl _)
                  have tp97 : M85.2.1 = t1 := by rw [z88]; exact tp48
                  show pl _ _ _ (123, [(0, .ref ac), (1, .ref a), (2, .int (nI p)), (3, .int (nI i)), (4, .int (nI (mkN f n E (by2 f p))))], [], M85) _
                  have hb9 := (s_fe_in hfe).2.2.1 (by omega)
                  refine ps_st (S' := (124, [(0, .ref ac), (1, .ref a), (2, .int (nI p)), (3, .int (nI i)), (4, .int (nI (mkN f n E (by2 f p))))], [.ref ac], M85)) rfl rfl rfl ?_
                  refine ps_st (S' := (125, [(0, .ref ac), (1, .ref a), (2, .int (nI p)), (3, .int (nI i)), (4, .int (nI (mkN f n E (by2 f p))))], [.int (nI p), .ref ac], M85)) rfl rfl rfl ?_
                  refine pl_call (a := [.ref ac, .int (nI p)]) (rest := []) rfl rfl rfl (dk_areClasses (f := f) (n := n) (N := N) (q := q) (E := E) (ac := ac) (c := c) (b := b) (da := da) (vd := vd) (fr := fr) (mr := mr) (fa := fa) (ic := ic) (mj := mj) (na := na) (pa := pa) (mi := mi) (ru := ru) (wa := wa) (s1 := (nI s'38)) (k1 := k1) (k2 := k2) (k3 := k3) (k4 := k4) (k5 := k5) (k6 := k6) (k7 := k7) (p := p) h89 h90 h91 (hn) (by omega) (hV94)) (fun v98 M99 q100 => ?_)
                  obtain ⟨rfl, rfl⟩ := q100
                  show pl _ _ _ (128, [(0, .ref ac), (1, .ref a), (2, .int (nI p)), (3, .int (nI i)), (4, .int (nI (mkN f n E (by2 f p))))], [.int (nI (clA f E (p + 8) (by2 f (p + 6)) 0))], M85) _
                  refine ps_if (S1 := (142, [(0, .ref ac), (1, .ref a), (2, .int (nI p)), (3, .int (nI i))], [], M85)) (S2 := (131, [(0, .ref ac), (1, .ref a), (2, .int (nI p)), (3, .int (nI i)), (4, .int (nI (mkN f n E (by2 f p))))], [], M85)) rfl rfl rfl (fun c_128 => ?_) (fun c_128 => ?_)
                  · have c_128 : ¬ (nI (clA f E (p + 8) (by2 f (p + 6)) 0)) = 0 := of_decide_eq_true c_128
                    have n_128 : ¬ (clA f E (p + 8) (by2 f (p + 6)) 0 = 0) := fun h9 => c_128 ((eq_nI (p := clA f E (p + 8) (by2 f (p + 6)) 0) (n := 0) (Nat.lt_trans (le1_cl _ _ _ _ _) (by decide)) (by decide)).mpr h9)
                    refine ps_st (S' := (143, [(0, .ref ac), (1, .ref a), (2, .int (nI p)), (3, .int (nI i))], [.ref ac], M85)) rfl rfl rfl ?_
                    refine ps_st (S' := (144, [(0, .ref ac), (1, .ref a), (2, .int (nI p)), (3, .int (nI i))], [.int (nI p), .ref ac], M85)) rfl rfl rfl ?_
                    refine pl_call (a := [.ref ac, .int (nI p)]) (rest := []) rfl rfl rfl (dk_behind (f := f) (n := n) (q := q) (ac := ac) (c := c) (b := b) (da := da) (vd := vd) (s1 := (nI s'38)) (p := p) h89 h90 h91 (hn) (by omega)) (fun v101 M102 q103 => ?_)
                    obtain ⟨rfl, rfl⟩ := q103
                    show pl _ _ _ (147, [(0, .ref ac), (1, .ref a), (2, .int (nI p)), (3, .int (nI i))], [.int (nI (p + 6 + by4 f (p + 2)))], M85) _
                    refine ps_st (S' := (148, [(2, .int (nI (p + 6 + by4 f (p + 2)))), (0, .ref ac), (1, .ref a), (3, .int (nI i))], [], M85)) rfl rfl rfl ?_
                    refine ps_st (S' := (151, [(3, .int ((nI i) + 1)), (2, .int (nI (p + 6 + by4 f (p + 2)))), (0, .ref ac), (1, .ref a)], [], M85)) rfl rfl rfl ?_
                    rw [nI_add1 (p := i) (k := 1) (x := 1) rfl (by omega)]
                    show pl _ _ _ (_, [(3, .int (nI (i + 1))), (2, .int (nI (p + 6 + by4 f (p + 2)))), (0, .ref ac), (1, .ref a)], [], M85) _
                    refine ps_st (S' := (12, [(0, .ref ac), (1, .ref a), (2, .int (nI (p + 6 + by4 f (p + 2)))), (3, .int (nI (i + 1)))], [], M85)) rfl rfl rfl ?_
                    exact ih (i + 1) (p + 6 + by4 f (p + 2)) ((s'38)) (h) (t1) ((K.1 + 1, K.2.1, by2 f (p + 6))) (kn2) (cd2) M85 h89 h90 h91 h92 h93 h86 hV94 hV95 hF96 (tp97) (by omega) (by omega) (q38_l) (hh) (hq7) (by
                        rw [← hs9, maS_st (i := i) (by omega), q38_s]
                        dsimp only
                        rw [if_neg (fun h => h.2 hfe)]
                        rw [if_neg (by omega)]
                        rw [if_neg (by omega)]) (by
                        rw [← hu, maU_st (i := i) (p := p) (by omega), hk3, stM_3]) (by rw [nw_two q38_s (mk_3 _ _ _ _), if_neg n_48, hpc]) (by omega)
                  · have c_128 : ¬ (¬ (nI (clA f E (p + 8) (by2 f (p + 6)) 0)) = 0) := of_decide_eq_false c_128
                    have n_128 : clA f E (p + 8) (by2 f (p + 6)) 0 = 0 := (eq_nI (p := clA f E (p + 8) (by2 f (p + 6)) 0) (n := 0) (Nat.lt_trans (le1_cl _ _ _ _ _) (by decide)) (by decide)).mp (Decidable.not_not.mp c_128)
                    refine ps_st (S' := (132, [(0, .ref ac), (1, .ref a), (2, .int (nI p)), (3, .int (nI i)), (4, .int (nI (mkN f n E (by2 f p))))], [.ref ac], M85)) rfl rfl rfl ?_
                    refine ps_get (S' := (135, [(0, .ref ac), (1, .ref a), (2, .int (nI p)), (3, .int (nI i)), (4, .int (nI (mkN f n E (by2 f p))))], [.ref vd], M85)) rfl h89 rfl rfl ?_
                    refine ps_st (S' := (137, [(0, .ref ac), (1, .ref a), (2, .int (nI p)), (3, .int (nI i)), (4, .int (nI (mkN f n E (by2 f p))))], [.int 32, .ref vd], M85)) rfl rfl rfl ?_
                    refine ps_st (S' := (138, [(0, .ref ac), (1, .ref a), (2, .int (nI p)), (3, .int (nI i)), (4, .int (nI (mkN f n E (by2 f p))))], [.int (nI p), .int 32, .ref vd], M85)) rfl rfl rfl ?_
                    refine pl_call (a := [.ref vd, .int 32, .int (nI p)]) (rest := []) rfl rfl rfl (dk_wrong (vd := vd) (ru := ru) (wa := wa) (x1 := 32) (x2 := (nI p)) h93) (fun v104 M105 q106 => ?_)
                    obtain ⟨rfl, h107, f108⟩ := q106
                    have h110 := (f108.1 ac (nin1 (ob_ne h89 h93 (by decide)))).trans h89
                    have h111 := (f108.1 b (nin1 (ob_ne h90 h93 (by decide)))).trans h90
                    have h112 := (f108.1 da (nin1 (Ne.symm (ob_ar h93 h91)))).trans h91
                    have h113 := (f108.1 c (nin1 (ob_ne h92 h93 (by decide)))).trans h92
                    have h114 := (f108.1 a (nin1 (ob_ne h86 h93 (by decide)))).trans h86
                    have hF115 := hF96.trf f108 (by intro z hz; simp only [List.mem_cons, List.not_mem_nil, or_false] at hz ⊢; try omega)
                    have tp116 : M105.2.1 = t1 := by rw [f108.2]; exact tp97
                    have hV117 := hV94.keep f108.gm (n7c h93 (by decide) (n7nil))
                    have hV118 := hV95.keep f108.gm (nCc h93 (by decide) (nCn))
                    show pl _ _ _ (141, [(0, .ref ac), (1, .ref a), (2, .int (nI p)), (3, .int (nI i)), (4, .int (nI (mkN f n E (by2 f p))))], [.int 0], M105) _
                    exact ps_ret rfl rfl (Or.inr ⟨(32, p), by
                        rw [← hs9, maS_st (i := i) (by omega), q38_s]
                        dsimp only
                        rw [if_neg (fun h => h.2 hfe)]
                        rw [if_neg (by omega)]
                        rw [if_pos (by omega)], rfl, h107, hF115, hF115.2⟩)
                · have c_88 : ¬ (¬ (nI (mkN f n E (by2 f p))) = 2) := of_decide_eq_false c_88
                  have n_88 : mkN f n E (by2 f p) = 2 := (eq_nI (p := mkN f n E (by2 f p)) (n := 2) (Nat.lt_trans (le_mk _ _ _ _) (by decide)) (by decide)).mp (Decidable.not_not.mp c_88)
                  refine ps_st (S' := (92, [(0, .ref ac), (1, .ref a), (2, .int (nI p)), (3, .int (nI i)), (4, .int (nI (mkN f n E (by2 f p))))], [.ref ac], M24)) rfl rfl rfl ?_
                  refine ps_st (S' := (93, [(0, .ref ac), (1, .ref a), (2, .int (nI p)), (3, .int (nI i)), (4, .int (nI (mkN f n E (by2 f p))))], [.ref a, .ref ac], M24)) rfl rfl rfl ?_
                  refine ps_st (S' := (94, [(0, .ref ac), (1, .ref a), (2, .int (nI p)), (3, .int (nI i)), (4, .int (nI (mkN f n E (by2 f p))))], [.int (nI p), .ref a, .ref ac], M24)) rfl rfl rfl ?_
                  refine pl_call (a := [.ref ac, .ref a, .int (nI p)]) (rest := []) rfl rfl rfl (dk_codeHolds7 (f := f) (n := n) (N := N) (q := q) (E := E) (ac := ac) (c := c) (b := b) (da := da) (vd := vd) (fr := fr) (mr := mr) (fa := fa) (ic := ic) (mj := mj) (na := na) (pa := pa) (mi := mi) (ru := ru) (wa := wa) (k1 := k1) (k2 := k2) (k3 := k3) (k4 := k4) (k5 := k5) (k6 := k6) (k7 := k7) (a := a) (b0 := b0) (s := (s'38)) (w := w) (p := p) (e := (p + 6 + by4 f (p + 2))) (kn := kn2) (co := co) (ex := (nI K.2.2)) (cd := cd2) h39 h43 h44 h45 h40 h46 (hn) (hmj) (by omega) (hw) (by omega) ((s_fe_in hfe).2.2.2.2.2.2 n_88) (hV49) (by omega) (by omega) (by omega) (by omega) (by omega) (by omega) (by omega)) (fun v119 M120 q121 => ?_)
                  rcases q121 with q121 | q121
                  · skip
                    obtain ⟨e9122, q94_s, rfl, h123, f124, tp125⟩ := q121
                    rw [tp48] at tp125
                    have h126 := (f124.1 b (by omega) (nin3 (ob_ne h43 h39 (by decide)) (ob_ne h43 h40 (by decide)) (ob_ne h43 h46 (by decide)))).trans h43
                    have h127 := (f124.1 da (by omega) (nin3 (Ne.symm (ob_ar h39 h44)) (Ne.symm (ob_ar h40 h44)) (Ne.symm (ob_ar h46 h44)))).trans h44
                    have h128 := (f124.1 c (by omega) (nin3 (ob_ne h45 h39 (by decide)) (ob_ne h45 h40 (by decide)) (ob_ne h45 h46 (by decide)))).trans h45
                    have hF129 := hF47.tr f124 (by intro z hz; simp only [List.mem_cons, List.not_mem_nil, or_false] at hz ⊢; try omega)
                    have hV130 := hV49.keep f124 (n7c h39 (by decide) (n7c h40 (by decide) (n7c h46 (by decide) (n7nil))))
                    have hV131 := hV50.keep f124 (nCc h39 (by decide) (nCc h40 (by decide) (nCc h46 (by decide) (nCn))))
                    show pl _ _ _ (97, [(0, .ref ac), (1, .ref a), (2, .int (nI p)), (3, .int (nI i)), (4, .int (nI (mkN f n E (by2 f p))))], [.int 0], M120) _
                    refine ps_if (S1 := (102, [(0, .ref ac), (1, .ref a), (2, .int (nI p)), (3, .int (nI i)), (4, .int (nI (mkN f n E (by2 f p))))], [], M120)) (S2 := (100, [(0, .ref ac), (1, .ref a), (2, .int (nI p)), (3, .int (nI i)), (4, .int (nI (mkN f n E (by2 f p))))], [], M120)) rfl rfl rfl (fun c_97 => ?_) (fun c_97 => ?_)
                    · exact absurd (of_decide_eq_true c_97) (by decide)
                    refine ps_st (S' := (101, [(0, .ref ac), (1, .ref a), (2, .int (nI p)), (3, .int (nI i)), (4, .int (nI (mkN f n E (by2 f p))))], [.int 0], M120)) rfl rfl rfl ?_
                    exact ps_ret rfl rfl (Or.inr ⟨e9122, by
                        rw [← hs9, maS_st (i := i) (by omega), q38_s]
                        dsimp only
                        rw [if_neg (fun h => h.2 hfe)]
                        rw [if_pos (by omega), q94_s], rfl, h123, hF129, hF129.2⟩)
                  · skip
                    obtain ⟨s'132, q94_s, q94_l, rfl, h133, h134, h135, h136, h137, f138, tp139⟩ := q121
                    rw [tp48] at h135 h136 h137 tp139
                    have h140 := (f138.1 b (by omega) (nin3 (ob_ne h43 h39 (by decide)) (ob_ne h43 h40 (by decide)) (ob_ne h43 h46 (by decide)))).trans h43
                    have h141 := (f138.1 da (by omega) (nin3 (Ne.symm (ob_ar h39 h44)) (Ne.symm (ob_ar h40 h44)) (Ne.symm (ob_ar h46 h44)))).trans h44
                    have h142 := (f138.1 c (by omega) (nin3 (ob_ne h45 h39 (by decide)) (ob_ne h45 h40 (by decide)) (ob_ne h45 h46 (by decide)))).trans h45
                    have hF143 := hF47.tr f138 (by intro z hz; simp only [List.mem_cons, List.not_mem_nil, or_false] at hz ⊢; try omega)
                    have hV144 := hV49.keep f138 (n7c h39 (by decide) (n7c h40 (by decide) (n7c h46 (by decide) (n7nil))))
                    have hV145 := hV50.keep f138 (nCc h39 (by decide) (nCc h40 (by decide) (nCc h46 (by decide) (nCn))))
                    show pl _ _ _ (97, [(0, .ref ac), (1, .ref a), (2, .int (nI p)), (3, .int (nI i)), (4, .int (nI (mkN f n E (by2 f p))))], [.int 1], M120) _
                    have hC7 := CD0.of (lo := z0) (p := p) (by omega) (by omega) (by omega) h136 h137
                    refine ps_if (S1 := (102, [(0, .ref ac), (1, .ref a), (2, .int (nI p)), (3, .int (nI i)), (4, .int (nI (mkN f n E (by2 f p))))], [], M120)) (S2 := (100, [(0, .ref ac), (1, .ref a), (2, .int (nI p)), (3, .int (nI i)), (4, .int (nI (mkN f n E (by2 f p))))], [], M120)) rfl rfl rfl (fun c_97 => ?_) (fun c_97 => ?_)
                    rotate_left
                    · exact absurd (by decide) (of_decide_eq_false c_97)
                    refine ps_st (S' := (104, [(0, .ref ac), (1, .ref a), (2, .int (nI p)), (3, .int (nI i)), (4, .int (nI (mkN f n E (by2 f p))))], [.int (nI (mkN f n E (by2 f p)))], M120)) rfl rfl rfl ?_
                    refine ps_st (S' := (105, [(0, .ref ac), (1, .ref a), (2, .int (nI p)), (3, .int (nI i)), (4, .int (nI (mkN f n E (by2 f p))))], [.int 3, .int (nI (mkN f n E (by2 f p)))], M120)) rfl rfl rfl ?_
                    refine ps_if2 (S1 := (142, [(0, .ref ac), (1, .ref a), (2, .int (nI p)), (3, .int (nI i))], [], M120)) (S2 := (108, [(0, .ref ac), (1, .ref a), (2, .int (nI p)), (3, .int (nI i)), (4, .int (nI (mkN f n E (by2 f p))))], [], M120)) rfl rfl rfl (fun c_105 => ?_) (fun c_105 => ?_)
                    rotate_left
                    · exact absurd (show ¬ ((nI (mkN f n E (by2 f p))) = 3) from fun h9 => absurd ((eq_nI (p := mkN f n E (by2 f p)) (n := 3) (Nat.lt_trans (le_mk _ _ _ _) (by decide)) (by decide)).mp h9) (by omega)) (of_decide_eq_false c_105)
                    refine ps_st (S' := (143, [(0, .ref ac), (1, .ref a), (2, .int (nI p)), (3, .int (nI i))], [.ref ac], M120)) rfl rfl rfl ?_
                    refine ps_st (S' := (144, [(0, .ref ac), (1, .ref a), (2, .int (nI p)), (3, .int (nI i))], [.int (nI p), .ref ac], M120)) rfl rfl rfl ?_
                    refine pl_call (a := [.ref ac, .int (nI p)]) (rest := []) rfl rfl rfl (dk_behind (f := f) (n := n) (q := q) (ac := ac) (c := c) (b := b) (da := da) (vd := vd) (s1 := (nI s'132)) (p := p) h133 h140 h141 (hn) (by omega)) (fun v146 M147 q148 => ?_)
                    obtain ⟨rfl, rfl⟩ := q148
                    show pl _ _ _ (147, [(0, .ref ac), (1, .ref a), (2, .int (nI p)), (3, .int (nI i))], [.int (nI (p + 6 + by4 f (p + 2)))], M120) _
                    refine ps_st (S' := (148, [(2, .int (nI (p + 6 + by4 f (p + 2)))), (0, .ref ac), (1, .ref a), (3, .int (nI i))], [], M120)) rfl rfl rfl ?_
                    refine ps_st (S' := (151, [(3, .int ((nI i) + 1)), (2, .int (nI (p + 6 + by4 f (p + 2)))), (0, .ref ac), (1, .ref a)], [], M120)) rfl rfl rfl ?_
                    rw [nI_add1 (p := i) (k := 1) (x := 1) rfl (by omega)]
                    show pl _ _ _ (_, [(3, .int (nI (i + 1))), (2, .int (nI (p + 6 + by4 f (p + 2)))), (0, .ref ac), (1, .ref a)], [], M120) _
                    refine ps_st (S' := (12, [(0, .ref ac), (1, .ref a), (2, .int (nI (p + 6 + by4 f (p + 2)))), (3, .int (nI (i + 1)))], [], M120)) rfl rfl rfl ?_
                    exact ih (i + 1) (p + 6 + by4 f (p + 2)) ((s'132)) (1) (t1 + 2) ((K.1 + 1, p, K.2.2)) (kn2) (.ref t1) M120 h133 h140 h141 h142 h134 h135 hV144 hC7 hF143 (tp139) (by omega) (by omega) (q94_l) (Or.inr ⟨rfl, _, rfl⟩) (hq7) (by
                        rw [← hs9, maS_st (i := i) (by omega), q38_s]
                        dsimp only
                        rw [if_neg (fun h => h.2 hfe)]
                        rw [if_pos (by omega), q94_s]) (by
                        rw [← hu, maU_st (i := i) (p := p) (by omega), n_88, stM_2]) (by rw [cd_bits q94_s 2 (by decide), cd_bits q94_s 3 (by decide), nw_two q38_s (mk_3 _ _ _ _), if_neg n_48, hpc]) (by omega)
              · have c_71 : ¬ ((nI x78) = (nI (p + 6 + by4 f (p + 2)))) := of_decide_eq_false c_71
                have n_71 : ¬ (x78 = p + 6 + by4 f (p + 2)) := fun h9 => c_71 ((eq_nI (p := x78) (n := p + 6 + by4 f (p + 2)) (by omega) (by omega)).mpr h9)
                have hfe : ¬ s_fe f (mkN f n E (by2 f p)) (p + 6) (p + 6 + by4 f (p + 2)) = some (p + 6 + by4 f (p + 2)) := by rw [q63_s]; exact fun h => n_71 (Option.some.inj h)
                refine ps_st (S' := (75, [(4, .int (nI (mkN f n E (by2 f p)))), (0, .ref ac), (1, .ref a), (2, .int (nI p)), (3, .int (nI i))], [.ref ac], M24)) rfl rfl rfl ?_
                refine ps_get (S' := (78, [(4, .int (nI (mkN f n E (by2 f p)))), (0, .ref ac), (1, .ref a), (2, .int (nI p)), (3, .int (nI i))], [.ref vd], M24)) rfl h39 rfl rfl ?_
                refine ps_st (S' := (80, [(4, .int (nI (mkN f n E (by2 f p)))), (0, .ref ac), (1, .ref a), (2, .int (nI p)), (3, .int (nI i))], [.int 30, .ref vd], M24)) rfl rfl rfl ?_
                refine ps_st (S' := (81, [(4, .int (nI (mkN f n E (by2 f p)))), (0, .ref ac), (1, .ref a), (2, .int (nI p)), (3, .int (nI i))], [.int (nI p), .int 30, .ref vd], M24)) rfl rfl rfl ?_
                refine pl_call (a := [.ref vd, .int 30, .int (nI p)]) (rest := []) rfl rfl rfl (dk_wrong (vd := vd) (ru := ru) (wa := wa) (x1 := 30) (x2 := (nI p)) h40) (fun v149 M150 q151 => ?_)
                obtain ⟨rfl, h152, f153⟩ := q151
                have h155 := (f153.1 ac (nin1 (ob_ne h39 h40 (by decide)))).trans h39
                have h156 := (f153.1 b (nin1 (ob_ne h43 h40 (by decide)))).trans h43
                have h157 := (f153.1 da (nin1 (Ne.symm (ob_ar h40 h44)))).trans h44
                have h158 := (f153.1 c (nin1 (ob_ne h45 h40 (by decide)))).trans h45
                have h159 := (f153.1 a (nin1 (ob_ne h46 h40 (by decide)))).trans h46
                have hF160 := hF47.trf f153 (by intro z hz; simp only [List.mem_cons, List.not_mem_nil, or_false] at hz ⊢; try omega)
                have tp161 : M150.2.1 = t1 := by rw [f153.2]; exact tp48
                have hV162 := hV49.keep f153.gm (n7c h40 (by decide) (n7nil))
                have hV163 := hV50.keep f153.gm (nCc h40 (by decide) (nCn))
                show pl _ _ _ (84, [(4, .int (nI (mkN f n E (by2 f p)))), (0, .ref ac), (1, .ref a), (2, .int (nI p)), (3, .int (nI i))], [.int 0], M150) _
                exact ps_ret rfl rfl (Or.inr ⟨(30, p), by
                    rw [← hs9, maS_st (i := i) (by omega), q38_s]
                    dsimp only
                    rw [if_pos ⟨n_48, hfe⟩], rfl, h152, hF160, hF160.2⟩)
  refine ps_st (S' := (1, [(0, .ref ac), (1, .ref a)], [.ref ac], M)) rfl rfl rfl ?_
  refine ps_st (S' := (2, [(0, .ref ac), (1, .ref a)], [.int 0, .ref ac], M)) rfl rfl rfl ?_
  refine ps_put (l' := [.ref c, .ref b, .ref q, .ref vd, .int 0]) rfl h_ac rfl rfl (fun M164 h165 f166 z167 => ?_)
  have h168 := (f166 b (ob_ne h_b h_ac (by decide))).trans h_b
  have h169 := (f166 da (Ne.symm (ob_ar h_ac h_da))).trans h_da
  have h170 := (f166 c (ob_ne h_c h_ac (by decide))).trans h_c
  have h171 := (f166 vd (ob_ne h_vd h_ac (by decide))).trans h_vd
  have h172 := (f166 a (ob_ne h_a h_ac (by decide))).trans h_a
  have hV173 := hV.put h_ac (by decide) f166 z167
  have hV174 := hC.put h_ac (by decide) f166 z167
  have hF175 := hF.up (Or.inl (by simp)) f166 (by rw [z167]; exact Nat.le_refl _)
  have tp176 : M164.2.1 = z0 := by rw [z167]; exact tp0
  show pl _ _ _ (5, [(0, .ref ac), (1, .ref a)], [], M164) _
  refine ps_st (S' := (6, [(0, .ref ac), (1, .ref a)], [.ref a], M164)) rfl rfl rfl ?_
  refine ps_get (S' := (9, [(0, .ref ac), (1, .ref a)], [.int (nI (b0 + 8))], M164)) rfl h172 rfl rfl ?_
  refine ps_st (S' := (10, [(2, .int (nI (b0 + 8))), (0, .ref ac), (1, .ref a)], [], M164)) rfl rfl rfl ?_
  refine ps_st (S' := (11, [(2, .int (nI (b0 + 8))), (0, .ref ac), (1, .ref a)], [.int 0], M164)) rfl rfl rfl ?_
  refine ps_st (S' := (12, [(0, .ref ac), (1, .ref a), (2, .int (nI (b0 + 8))), (3, .int 0)], [], M164)) rfl rfl rfl ?_
  exact (LL kf) (0) (b0 + 8) (0) (0) (z0) ((0, 0, 0)) (kn) (.null) M164 h165 h168 h169 h170 h171 h172 hV173 hV174 hF175 (tp176) (Nat.le_refl _) (by omega) (by decide) (Or.inl ⟨rfl, rfl⟩) (hat) (rfl) (rfl) (by decide) (by omega)
set_option maxHeartbeats 1000000 in
theorem dk_fieldsHold7 {g : xe_G} {M : mi_H} {f : Nat → Int32} {n N q : Nat} {E : List (Nat × Nat)} {o c b da vd ac mr fa ic mj na pa : Nat} {mi ru wa k1 k2 k3 k4 k5 k6 k7 : Int32} {ox : Nat} {og ga gf : Nat} {gn gw : Int32} {gk : Value} {s1 : Int32} {B : List Nat} {G : Nat → Nat} {mm : Nat} {B2 : List Nat} {G2 : Nat → Nat} {m2 kk2 : Nat} (h_ox : M.1 ox = some (ob 8 [.ref q, .int (nI mj), .ref vd])) (h_og : M.1 og = some (ob 11 [.ref ga, .int gn, .ref gf, gk, .int gw])) (h_o : M.1 o = some (ob 2 [.ref c, .ref b, .ref q, .ref vd, .ref ac])) (h_c : M.1 c = some (ob 3 [.ref b, .ref q, .int mi, .int (nI mj), .int (nI fa), .int (nI ic), .ref mm, .ref mr, .int (nI na), .int (nI pa), .int k1, .int k2, .int k3, .int k4, .int k5, .int k6, .int k7])) (h_b : M.1 b = some (ob 1 [.ref da])) (h_da : M.1 da = some (ar .byte n f)) (h_vd : M.1 vd = some (ob 10 [.int ru, .int wa])) (h_ac : M.1 ac = some (ob 0 [.ref c, .ref b, .ref q, .ref vd, .int s1])) (hn : n ≤ 65540) (hmj : mj < 65536) (hfa : fa + 8 ≤ n) (hB9 : B.length < 65536) (hB : ∀ i, i < B.length → B.getD i 0 + 8 ≤ n ∧ ∃ e0, s_atts f n (by2 f (B.getD i 0 + 6)) (B.getD i 0 + 8) = .inr e0) (hD : ∀ i j, i < B.length → j < B2.length → ¬ G i = G2 j) (l_o : o < M.2.1) (l_c : c < M.2.1) (l_b : b < M.2.1) (l_da : da < M.2.1) (l_vd : vd < M.2.1) (l_ac : ac < M.2.1) (l_q : q < M.2.1) (l_ox : ox < M.2.1) (l_og : og < M.2.1) (hV : PV g f n N E q M) (hM : MV f B mm G 0 M) (hM2 : MV f B2 m2 G2 kk2 M) : pt (mT g) 57 [.ref o] M (fun v M' => (∃ (s2 : Int32), (flS f n E (by2 f fa) B B.length 0 = none) ∧ (PV g f n N E q M') ∧ (MV f B2 m2 G2 kk2 M') ∧ (MV f B mm G B.length M') ∧ (DF f n E B G B.length M') ∧ v = some (.int 1) ∧ M'.1 ox = some (ob 8 [.ref q, .int (nI mj), .ref vd]) ∧ M'.1 og = some (ob 11 [.ref ga, .int gn, .ref gf, gk, .int gw]) ∧ M'.1 o = some (ob 2 [.ref c, .ref b, .ref q, .ref vd, .ref ac]) ∧ M'.1 c = some (ob 3 [.ref b, .ref q, .int mi, .int (nI mj), .int (nI fa), .int (nI ic), .ref mm, .ref mr, .int (nI na), .int (nI pa), .int k1, .int k2, .int k3, .int k4, .int k5, .int k6, .int k7]) ∧ M'.1 b = some (ob 1 [.ref da]) ∧ M'.1 da = some (ar .byte n f) ∧ M'.1 vd = some (ob 10 [.int ru, .int wa]) ∧ M'.1 ac = some (ob 0 [.ref c, .ref b, .ref q, .ref vd, .int s2]) ∧ M.2.1 ≤ M'.2.1) ∨ (∃ (e9 : Nat × Nat), (flS f n E (by2 f fa) B B.length 0 = some e9) ∧ v = some (.int 0) ∧ M'.1 vd = some (ob 10 [.int (nI e9.1), .int (nI e9.2)]) ∧ M'.1 og = some (ob 11 [.ref ga, .int gn, .ref gf, gk, .int gw]) ∧ M.2.1 ≤ M'.2.1)) := by
  refine pt_in (b := mb_57 g) rfl (fun kf => ?_)
  show pl (mT g) kf (mb_57 g).2 (0, [(0, .ref o)], [], M) _
  obtain ⟨z0, tp0⟩ : ∃ z0, M.2.1 = z0 := ⟨_, rfl⟩
  have hDD : DF f n E B G 0 M := DF.nil
  have LL : ∀ (kf : Nat), (∀ (i t1 : Nat) (s2 : Int32) (M1 : mi_H), (M1.1 ox = some (ob 8 [.ref q, .int (nI mj), .ref vd])) → (M1.1 og = some (ob 11 [.ref ga, .int gn, .ref gf, gk, .int gw])) → (M1.1 o = some (ob 2 [.ref c, .ref b, .ref q, .ref vd, .ref ac])) → (M1.1 c = some (ob 3 [.ref b, .ref q, .int mi, .int (nI mj), .int (nI fa), .int (nI ic), .ref mm, .ref mr, .int (nI na), .int (nI pa), .int k1, .int k2, .int k3, .int k4, .int k5, .int k6, .int k7])) → (M1.1 b = some (ob 1 [.ref da])) → (M1.1 da = some (ar .byte n f)) → (M1.1 vd = some (ob 10 [.int ru, .int wa])) → (M1.1 ac = some (ob 0 [.ref c, .ref b, .ref q, .ref vd, .int s2])) → (PV g f n N E q M1) → (MV f B mm G i M1) → (MV f B2 m2 G2 kk2 M1) → (DF f n E B G i M1) → (M1.2.1 = t1) → (z0 ≤ t1) → (i ≤ B.length) → (flS f n E (by2 f fa) B (B.length - i) i = flS f n E (by2 f fa) B B.length 0) →  pl (mT g) kf (mb_57 g).2 (2, [(0, .ref o), (1, .int (nI i))], [], M1) (fun v M' => (∃ (s2 : Int32), (flS f n E (by2 f fa) B B.length 0 = none) ∧ (PV g f n N E q M') ∧ (MV f B2 m2 G2 kk2 M') ∧ (MV f B mm G B.length M') ∧ (DF f n E B G B.length M') ∧ v = some (.int 1) ∧ M'.1 ox = some (ob 8 [.ref q, .int (nI mj), .ref vd]) ∧ M'.1 og = some (ob 11 [.ref ga, .int gn, .ref gf, gk, .int gw]) ∧ M'.1 o = some (ob 2 [.ref c, .ref b, .ref q, .ref vd, .ref ac]) ∧ M'.1 c = some (ob 3 [.ref b, .ref q, .int mi, .int (nI mj), .int (nI fa), .int (nI ic), .ref mm, .ref mr, .int (nI na), .int (nI pa), .int k1, .int k2, .int k3, .int k4, .int k5, .int k6, .int k7]) ∧ M'.1 b = some (ob 1 [.ref da]) ∧ M'.1 da = some (ar .byte n f) ∧ M'.1 vd = some (ob 10 [.int ru, .int wa]) ∧ M'.1 ac = some (ob 0 [.ref c, .ref b, .ref q, .ref vd, .int s2]) ∧ M.2.1 ≤ M'.2.1) ∨ (∃ (e9 : Nat × Nat), (flS f n E (by2 f fa) B B.length 0 = some e9) ∧ v = some (.int 0) ∧ M'.1 vd = some (ob 10 [.int (nI e9.1), .int (nI e9.2)]) ∧ M'.1 og = some (ob 11 [.ref ga, .int gn, .ref gf, gk, .int gw]) ∧ M.2.1 ≤ M'.2.1))) := by
    intro kf
    induction kf with
    | zero => exact (by intros; exact pl_0)
    | succ kf ih =>
      intro i t1 s2 M1 hl_ox hl_og hl_o hl_c hl_b hl_da hl_vd hl_ac hV1 hM1 hM21 hDD1 tp1 ht hi hs
      refine ps_st1 (S' := (3, [(0, .ref o), (1, .int (nI i))], [.int (nI i)], M1)) rfl rfl rfl ?_
      obtain ⟨R, h_mm, hR⟩ := hM1.2.1
      have l_mm := hM1.1
      refine ps_st (S' := (4, [(0, .ref o), (1, .int (nI i))], [.ref o, .int (nI i)], M1)) rfl rfl rfl ?_
      refine ps_get (S' := (7, [(0, .ref o), (1, .int (nI i))], [.ref c, .int (nI i)], M1)) rfl hl_o rfl rfl ?_
      refine ps_get (S' := (10, [(0, .ref o), (1, .int (nI i))], [.ref mm, .int (nI i)], M1)) rfl hl_c rfl rfl ?_
      refine ps_aalen (S' := (11, [(0, .ref o), (1, .int (nI i))], [.int (nI B.length), .int (nI i)], M1)) rfl h_mm rfl ?_
      refine ps_if2 (S1 := (59, [(0, .ref o), (1, .int (nI i))], [], M1)) (S2 := (14, [(0, .ref o), (1, .int (nI i))], [], M1)) rfl rfl rfl (fun c_11 => ?_) (fun c_11 => ?_)
      · have c_11 : (nI B.length) ≤ (nI i) := of_decide_eq_true c_11
        have n_11 : B.length ≤ i := (le_nI (p := B.length) (n := i) (by omega) (by omega)).mp c_11
        refine ps_st (S' := (60, [(0, .ref o), (1, .int (nI i))], [.int 1], M1)) rfl rfl rfl ?_
        exact ps_ret rfl rfl (Or.inl ⟨s2, by rw [← hs, show B.length - i = 0 by omega]; rfl, hV1, hM21, hM1.le (by omega), by rw [show B.length = i by omega]; exact hDD1, rfl, hl_ox, hl_og, hl_o, hl_c, hl_b, hl_da, hl_vd, hl_ac, by omega⟩)
      · have c_11 : ¬ ((nI B.length) ≤ (nI i)) := of_decide_eq_false c_11
        have n_11 : ¬ (B.length ≤ i) := fun h9 => c_11 ((le_nI (p := B.length) (n := i) (by omega) (by omega)).mpr h9)
        refine ps_st (S' := (15, [(0, .ref o), (1, .int (nI i))], [.ref o], M1)) rfl rfl rfl ?_
        refine ps_get (S' := (18, [(0, .ref o), (1, .int (nI i))], [.ref c], M1)) rfl hl_o rfl rfl ?_
        refine ps_get (S' := (21, [(0, .ref o), (1, .int (nI i))], [.ref mm], M1)) rfl hl_c rfl rfl ?_
        refine ps_st (S' := (22, [(0, .ref o), (1, .int (nI i))], [.int (nI i), .ref mm], M1)) rfl rfl rfl ?_
        obtain ⟨hl8, y1, y2, y3, y4, yv, hc8, hv8⟩ := hM1.2.2.2 i (by omega)
        obtain ⟨rfl, rfl, rfl, rfl, rfl⟩ := hv8 (Nat.le_refl _)
        obtain ⟨a, ha⟩ : ∃ a, G i = a := ⟨_, rfl⟩
        rw [ha] at hc8 hl8
        have hA : G i = a ∧ i < B.length ∧ i < i + 1 := ⟨ha, by omega, by omega⟩
        have hI9 := hM1.2.2.1
        have hM9 := hM1.le (Nat.le_succ i)
        have hb0 : B.getD i 0 = B.getD i 0 := rfl
        have hDa : ∀ j, j < B2.length → ¬ G2 j = a := fun j hj e9 => hD i j (by omega) hj (ha.trans e9.symm)
        have hDo : ∀ j, j < B2.length → j < B2.length → ¬ G2 j = a := fun j hj _ => hDa j hj
        have hDk : ∀ j, j < i → j < B.length → ¬ G j = a := fun j hj hb e9 => absurd (hI9 j i hb (by omega) (e9.trans ha.symm)) (by omega)
        obtain ⟨hb1, e0, hat⟩ := hB i (by omega)
        refine ps_aald (S' := (23, [(0, .ref o), (1, .int (nI i))], [.ref a], M1)) rfl h_mm (⟨by omega, by rw [hR i (by omega), ha]⟩) rfl ?_
        refine ps_st (S' := (24, [(2, .ref a), (0, .ref o), (1, .int (nI i))], [], M1)) rfl rfl rfl ?_
        refine ps_st (S' := (25, [(2, .ref a), (0, .ref o), (1, .int (nI i))], [.ref a], M1)) rfl rfl rfl ?_
        refine ps_st (S' := (31, [(2, .ref a), (0, .ref o), (1, .int (nI i))], [], M1)) rfl rfl rfl ?_
        refine ps_st (S' := (32, [(2, .ref a), (0, .ref o), (1, .int (nI i))], [.ref o], M1)) rfl rfl rfl ?_
        refine ps_st (S' := (33, [(2, .ref a), (0, .ref o), (1, .int (nI i))], [.ref a, .ref o], M1)) rfl rfl rfl ?_
        refine ps_st (S' := (34, [(2, .ref a), (0, .ref o), (1, .int (nI i))], [.int (nI i), .ref a, .ref o], M1)) rfl rfl rfl ?_
        refine pl_call (a := [.ref o, .ref a, .int (nI i)]) (rest := []) rfl rfl rfl (dk_fieldHolds (f := f) (n := n) (N := N) (q := q) (E := E) (o := o) (c := c) (b := b) (da := da) (vd := vd) (ac := ac) (mr := mr) (fa := fa) (ic := ic) (mj := mj) (na := na) (pa := pa) (mi := mi) (ru := ru) (wa := wa) (k1 := k1) (k2 := k2) (k3 := k3) (k4 := k4) (k5 := k5) (k6 := k6) (k7 := k7) (a := a) (b0 := (B.getD i 0)) (kn := 0) (co := 0) (ap := 0) (ex := 0) (cd := .null) (B := B) (G := G) (mm := mm) (kk := (i + 1)) (i0 := i) hl_o hl_c hl_b hl_da hl_vd hc8 (hn) (hmj) (hfa) (hA) (rfl) (hB9) (hb1) (hV1) (hM9)) (fun v1 M2 q3 => ?_)
        rcases q3 with q3 | q3
        · skip
          obtain ⟨q34_s, rfl, h4, f5⟩ := q3
          have h7 := (f5.1 ox (nin1 (ob_ne hl_ox hl_vd (by decide)))).trans hl_ox
          have h8 := (f5.1 og (nin1 (ob_ne hl_og hl_vd (by decide)))).trans hl_og
          have h9 := (f5.1 o (nin1 (ob_ne hl_o hl_vd (by decide)))).trans hl_o
          have h10 := (f5.1 c (nin1 (ob_ne hl_c hl_vd (by decide)))).trans hl_c
          have h11 := (f5.1 b (nin1 (ob_ne hl_b hl_vd (by decide)))).trans hl_b
          have h12 := (f5.1 da (nin1 (Ne.symm (ob_ar hl_vd hl_da)))).trans hl_da
          have h13 := (f5.1 ac (nin1 (ob_ne hl_ac hl_vd (by decide)))).trans hl_ac
          have h14 := (f5.1 mm (nin1 (Ne.symm (ob_ro hl_vd h_mm)))).trans h_mm
          have h15 := (f5.1 a (nin1 (ob_ne hc8 hl_vd (by decide)))).trans hc8
          have tp17 : M2.2.1 = t1 := by rw [f5.2]; exact tp1
          have hV18 := hV1.keep f5.gm (n7c hl_vd (by decide) (n7nil))
          have hV19 := hM9.keep f5.gm (n6o hl_vd (by decide) (n6on))
          have hV20 := hM21.keep f5.gm (n6o hl_vd (by decide) (n6on))
          have hV21 := hDD1.keep f5.gm (nDc hl_vd (by decide) (nDn))
          show pl _ _ _ (37, [(2, .ref a), (0, .ref o), (1, .int (nI i))], [.int 1], M2) _
          refine ps_if (S1 := (51, [], [], M2)) (S2 := (40, [(2, .ref a), (0, .ref o), (1, .int (nI i))], [], M2)) rfl rfl rfl (fun c_37 => ?_) (fun c_37 => ?_)
          · exact absurd (of_decide_eq_true c_37) (by decide)
          refine ps_st (S' := (41, [(2, .ref a), (0, .ref o), (1, .int (nI i))], [.ref o], M2)) rfl rfl rfl ?_
          refine ps_get (S' := (44, [(2, .ref a), (0, .ref o), (1, .int (nI i))], [.ref ac], M2)) rfl h9 rfl rfl ?_
          refine ps_st (S' := (45, [(2, .ref a), (0, .ref o), (1, .int (nI i))], [.ref a, .ref ac], M2)) rfl rfl rfl ?_
          refine pl_call (a := [.ref ac, .ref a]) (rest := []) rfl rfl rfl (dk_ofField7 (f := f) (n := n) (N := N) (q := q) (E := E) (ac := ac) (c := c) (b := b) (da := da) (vd := vd) (fr := mm) (mr := mr) (fa := fa) (ic := ic) (mj := mj) (na := na) (pa := pa) (mi := mi) (ru := ru) (wa := wa) (s1 := s2) (k1 := k1) (k2 := k2) (k3 := k3) (k4 := k4) (k5 := k5) (k6 := k6) (k7 := k7) (a := a) (b0 := (B.getD i 0)) (e0 := e0) (kn := 0) (ap := 0) (ex := 0) (cd := .null) h13 h11 h12 h10 h4 h15 (hn) (hmj) (hb1) (hat) (hV18)) (fun v22 M23 q24 => ?_)
          rcases q24 with q24 | q24
          · skip
            obtain ⟨s225, K26, q45_s, q45_U, rfl, h27, h28, h29, f30⟩ := q24
            have h32 := (f30.1 ox (nin3 (ob_ne h7 h13 (by decide)) (ob_ne h7 h4 (by decide)) (ob_ne h7 h15 (by decide)))).trans h7
            have h33 := (f30.1 og (nin3 (ob_ne h8 h13 (by decide)) (ob_ne h8 h4 (by decide)) (ob_ne h8 h15 (by decide)))).trans h8
            have h34 := (f30.1 o (nin3 (ob_ne h9 h13 (by decide)) (ob_ne h9 h4 (by decide)) (ob_ne h9 h15 (by decide)))).trans h9
            have h35 := (f30.1 c (nin3 (ob_ne h10 h13 (by decide)) (ob_ne h10 h4 (by decide)) (ob_ne h10 h15 (by decide)))).trans h10
            have h36 := (f30.1 b (nin3 (ob_ne h11 h13 (by decide)) (ob_ne h11 h4 (by decide)) (ob_ne h11 h15 (by decide)))).trans h11
            have h37 := (f30.1 da (nin3 (Ne.symm (ob_ar h13 h12)) (Ne.symm (ob_ar h4 h12)) (Ne.symm (ob_ar h15 h12)))).trans h12
            have h38 := (f30.1 mm (nin3 (Ne.symm (ob_ro h13 h14)) (Ne.symm (ob_ro h4 h14)) (Ne.symm (ob_ro h15 h14)))).trans h14
            have tp40 : M23.2.1 = t1 := by rw [f30.2]; exact tp17
            have hV41 := hV18.keep f30.gm (n7c h13 (by decide) (n7c h4 (by decide) (n7c h15 (by decide) (n7nil))))
            have hV42 := hV19.keepA f30.gm (n6c h13 (by decide) (n6c h4 (by decide) (n6a (n6nil)))) hA h29 hb0
            have hV43 := hV20.keepB f30.gm (n6c h13 (by decide) (n6c h4 (by decide) (n6a (n6nil)))) h15 hDa
            have hV44 := hV21.keep f30.gm (nDc h13 (by decide) (nDc h4 (by decide) (nDa h15 hDk (nDn))))
            show pl _ _ _ (48, [(2, .ref a), (0, .ref o), (1, .int (nI i))], [.int 1], M23) _
            refine ps_if (S1 := (53, [(0, .ref o), (1, .int (nI i))], [], M23)) (S2 := (51, [], [], M23)) rfl rfl rfl (fun c_48 => ?_) (fun c_48 => ?_)
            rotate_left
            · exact absurd (by decide) (of_decide_eq_false c_48)
            refine ps_st (S' := (56, [(1, .int ((nI i) + 1)), (0, .ref o)], [], M23)) rfl rfl rfl ?_
            rw [nI_add1 (p := i) (k := 1) (x := 1) rfl (by omega)]
            show pl _ _ _ (_, [(1, .int (nI (i + 1))), (0, .ref o)], [], M23) _
            refine ps_st (S' := (2, [(0, .ref o), (1, .int (nI (i + 1)))], [], M23)) rfl rfl rfl ?_
            have hK9 : fK f n E (B.getD i 0) = K26 := q45_U
            have hc7 := h29
            have hDD9 := hV44.snoc ha (by omega) (by rw [hK9]; exact hc7)
            exact ih (i + 1) (t1) (s225) M23 h32 h33 h34 h35 h36 h37 h27 h28 hV41 hV42 hV43 hDD9  (tp40) (by omega) (by omega) (by
                rw [← hs, flS_st (i := i) (by omega)]
                rw [q34_s]
                try dsimp only
                rw [q45_s]
                try dsimp only
                first | done | rfl)
          · skip
            obtain ⟨e945, q45_s, rfl, h46, f47⟩ := q24
            have h49 := (f47.1 ox (nin3 (ob_ne h7 h13 (by decide)) (ob_ne h7 h4 (by decide)) (ob_ne h7 h15 (by decide)))).trans h7
            have h50 := (f47.1 og (nin3 (ob_ne h8 h13 (by decide)) (ob_ne h8 h4 (by decide)) (ob_ne h8 h15 (by decide)))).trans h8
            have h51 := (f47.1 o (nin3 (ob_ne h9 h13 (by decide)) (ob_ne h9 h4 (by decide)) (ob_ne h9 h15 (by decide)))).trans h9
            have h52 := (f47.1 c (nin3 (ob_ne h10 h13 (by decide)) (ob_ne h10 h4 (by decide)) (ob_ne h10 h15 (by decide)))).trans h10
            have h53 := (f47.1 b (nin3 (ob_ne h11 h13 (by decide)) (ob_ne h11 h4 (by decide)) (ob_ne h11 h15 (by decide)))).trans h11
            have h54 := (f47.1 da (nin3 (Ne.symm (ob_ar h13 h12)) (Ne.symm (ob_ar h4 h12)) (Ne.symm (ob_ar h15 h12)))).trans h12
            have h55 := (f47.1 mm (nin3 (Ne.symm (ob_ro h13 h14)) (Ne.symm (ob_ro h4 h14)) (Ne.symm (ob_ro h15 h14)))).trans h14
            have tp57 : M23.2.1 = t1 := by rw [f47.2]; exact tp17
            have hV58 := hV18.keep f47.gm (n7c h13 (by decide) (n7c h4 (by decide) (n7c h15 (by decide) (n7nil))))
            have hV59 := hV20.keepB f47.gm (n6c h13 (by decide) (n6c h4 (by decide) (n6a (n6nil)))) h15 hDa
            have hV60 := hV21.keep f47.gm (nDc h13 (by decide) (nDc h4 (by decide) (nDa h15 hDk (nDn))))
            show pl _ _ _ (48, [(2, .ref a), (0, .ref o), (1, .int (nI i))], [.int 0], M23) _
            refine ps_if (S1 := (53, [(0, .ref o), (1, .int (nI i))], [], M23)) (S2 := (51, [], [], M23)) rfl rfl rfl (fun c_48 => ?_) (fun c_48 => ?_)
            · exact absurd (of_decide_eq_true c_48) (by decide)
            refine ps_st (S' := (52, [], [.int 0], M23)) rfl rfl rfl ?_
            exact ps_ret rfl rfl (Or.inr ⟨e945, by
                rw [← hs, flS_st (i := i) (by omega)]
                rw [q34_s]
                try dsimp only
                rw [q45_s]
                try dsimp only
                first | done | rfl, rfl, h46, h50, by omega⟩)
        · skip
          obtain ⟨e61, q34_s, rfl, h62, f63⟩ := q3
          have h65 := (f63.1 ox (nin1 (ob_ne hl_ox hl_vd (by decide)))).trans hl_ox
          have h66 := (f63.1 og (nin1 (ob_ne hl_og hl_vd (by decide)))).trans hl_og
          have h67 := (f63.1 o (nin1 (ob_ne hl_o hl_vd (by decide)))).trans hl_o
          have h68 := (f63.1 c (nin1 (ob_ne hl_c hl_vd (by decide)))).trans hl_c
          have h69 := (f63.1 b (nin1 (ob_ne hl_b hl_vd (by decide)))).trans hl_b
          have h70 := (f63.1 da (nin1 (Ne.symm (ob_ar hl_vd hl_da)))).trans hl_da
          have h71 := (f63.1 ac (nin1 (ob_ne hl_ac hl_vd (by decide)))).trans hl_ac
          have h72 := (f63.1 mm (nin1 (Ne.symm (ob_ro hl_vd h_mm)))).trans h_mm
          have h73 := (f63.1 a (nin1 (ob_ne hc8 hl_vd (by decide)))).trans hc8
          have tp75 : M2.2.1 = t1 := by rw [f63.2]; exact tp1
          have hV76 := hV1.keep f63.gm (n7c hl_vd (by decide) (n7nil))
          have hV77 := hM9.keep f63.gm (n6o hl_vd (by decide) (n6on))
          have hV78 := hM21.keep f63.gm (n6o hl_vd (by decide) (n6on))
          have hV79 := hDD1.keep f63.gm (nDc hl_vd (by decide) (nDn))
          show pl _ _ _ (37, [(2, .ref a), (0, .ref o), (1, .int (nI i))], [.int 0], M2) _
          refine ps_if (S1 := (51, [], [], M2)) (S2 := (40, [(2, .ref a), (0, .ref o), (1, .int (nI i))], [], M2)) rfl rfl rfl (fun c_37 => ?_) (fun c_37 => ?_)
          rotate_left
          · exact absurd (by decide) (of_decide_eq_false c_37)
          refine ps_st (S' := (52, [], [.int 0], M2)) rfl rfl rfl ?_
          exact ps_ret rfl rfl (Or.inr ⟨e61, by
              rw [← hs, flS_st (i := i) (by omega)]
              rw [q34_s]
              try dsimp only
              first | done | rfl, rfl, h62, h66, by omega⟩)
  refine ps_st (S' := (1, [(0, .ref o)], [.int 0], M)) rfl rfl rfl ?_
  refine ps_st (S' := (2, [(0, .ref o), (1, .int 0)], [], M)) rfl rfl rfl ?_
  exact (LL kf) (0) (z0) (s1) M h_ox h_og h_o h_c h_b h_da h_vd h_ac hV hM hM2 hDD  (tp0) (Nat.le_refl _) (by omega) (rfl)
set_option maxHeartbeats 1000000 in
theorem dk_methodsHold7 {g : xe_G} {M : mi_H} {f : Nat → Int32} {n N q : Nat} {E : List (Nat × Nat)} {o c b da vd ac fr fa ic mj na pa : Nat} {mi ru wa k1 k2 k3 k4 k5 k6 k7 : Int32} {ox : Nat} {og ga gf : Nat} {gn gw : Int32} {gk : Value} {s1 : Int32} {B : List Nat} {G : Nat → Nat} {mm : Nat} {B2 : List Nat} {G2 : Nat → Nat} {m2 kk2 : Nat} (h_ox : M.1 ox = some (ob 8 [.ref q, .int (nI mj), .ref vd])) (h_og : M.1 og = some (ob 11 [.ref ga, .int gn, .ref gf, gk, .int gw])) (h_o : M.1 o = some (ob 2 [.ref c, .ref b, .ref q, .ref vd, .ref ac])) (h_c : M.1 c = some (ob 3 [.ref b, .ref q, .int mi, .int (nI mj), .int (nI fa), .int (nI ic), .ref fr, .ref mm, .int (nI na), .int (nI pa), .int k1, .int k2, .int k3, .int k4, .int k5, .int k6, .int k7])) (h_b : M.1 b = some (ob 1 [.ref da])) (h_da : M.1 da = some (ar .byte n f)) (h_vd : M.1 vd = some (ob 10 [.int ru, .int wa])) (h_ac : M.1 ac = some (ob 0 [.ref c, .ref b, .ref q, .ref vd, .int s1])) (hn : n ≤ 65540) (hmj : mj < 65536) (hfa : fa + 8 ≤ n) (hB9 : B.length < 65536) (hB : ∀ i, i < B.length → B.getD i 0 + 8 ≤ n ∧ ∃ e0, s_atts f n (by2 f (B.getD i 0 + 6)) (B.getD i 0 + 8) = .inr e0) (hD : ∀ i j, i < B.length → j < B2.length → ¬ G i = G2 j) (l_o : o < M.2.1) (l_c : c < M.2.1) (l_b : b < M.2.1) (l_da : da < M.2.1) (l_vd : vd < M.2.1) (l_ac : ac < M.2.1) (l_q : q < M.2.1) (l_ox : ox < M.2.1) (l_og : og < M.2.1) (hV : PV g f n N E q M) (hM : MV f B mm G 0 M) (hM2 : MV f B2 m2 G2 kk2 M) (hDO : DF f n E B2 G2 B2.length M) : pt (mT g) 67 [.ref o] M (fun v M' => (∃ (s2 : Int32), (mtS f n E (by2 f fa) mj B B.length 0 = none) ∧ (PV g f n N E q M') ∧ (MV f B2 m2 G2 kk2 M') ∧ (MV f B mm G B.length M') ∧ (DM f n E mj q b B G B.length M'.2.1 M') ∧ (DF f n E B2 G2 B2.length M') ∧ v = some (.int 1) ∧ M'.1 ox = some (ob 8 [.ref q, .int (nI mj), .ref vd]) ∧ M'.1 og = some (ob 11 [.ref ga, .int gn, .ref gf, gk, .int gw]) ∧ M'.1 o = some (ob 2 [.ref c, .ref b, .ref q, .ref vd, .ref ac]) ∧ M'.1 c = some (ob 3 [.ref b, .ref q, .int mi, .int (nI mj), .int (nI fa), .int (nI ic), .ref fr, .ref mm, .int (nI na), .int (nI pa), .int k1, .int k2, .int k3, .int k4, .int k5, .int k6, .int k7]) ∧ M'.1 b = some (ob 1 [.ref da]) ∧ M'.1 da = some (ar .byte n f) ∧ M'.1 vd = some (ob 10 [.int ru, .int wa]) ∧ M'.1 ac = some (ob 0 [.ref c, .ref b, .ref q, .ref vd, .int s2]) ∧ M.2.1 ≤ M'.2.1) ∨ (∃ (e9 : Nat × Nat), (mtS f n E (by2 f fa) mj B B.length 0 = some e9) ∧ v = some (.int 0) ∧ M'.1 vd = some (ob 10 [.int (nI e9.1), .int (nI e9.2)]) ∧ M'.1 og = some (ob 11 [.ref ga, .int gn, .ref gf, gk, .int gw]) ∧ M.2.1 ≤ M'.2.1)) := by
  refine pt_in (b := mb_67 g) rfl (fun kf => ?_)
  show pl (mT g) kf (mb_67 g).2 (0, [(0, .ref o)], [], M) _
  obtain ⟨z0, tp0⟩ : ∃ z0, M.2.1 = z0 := ⟨_, rfl⟩
  have hDD : DM f n E mj q b B G 0 z0 M := DM.nil
  have LL : ∀ (kf : Nat), (∀ (i t1 : Nat) (s2 : Int32) (M1 : mi_H), (M1.1 ox = some (ob 8 [.ref q, .int (nI mj), .ref vd])) → (M1.1 og = some (ob 11 [.ref ga, .int gn, .ref gf, gk, .int gw])) → (M1.1 o = some (ob 2 [.ref c, .ref b, .ref q, .ref vd, .ref ac])) → (M1.1 c = some (ob 3 [.ref b, .ref q, .int mi, .int (nI mj), .int (nI fa), .int (nI ic), .ref fr, .ref mm, .int (nI na), .int (nI pa), .int k1, .int k2, .int k3, .int k4, .int k5, .int k6, .int k7])) → (M1.1 b = some (ob 1 [.ref da])) → (M1.1 da = some (ar .byte n f)) → (M1.1 vd = some (ob 10 [.int ru, .int wa])) → (M1.1 ac = some (ob 0 [.ref c, .ref b, .ref q, .ref vd, .int s2])) → (PV g f n N E q M1) → (MV f B mm G i M1) → (MV f B2 m2 G2 kk2 M1) → (DF f n E B2 G2 B2.length M1) → (DM f n E mj q b B G i t1 M1) → (M1.2.1 = t1) → (z0 ≤ t1) → (i ≤ B.length) → (mtS f n E (by2 f fa) mj B (B.length - i) i = mtS f n E (by2 f fa) mj B B.length 0) →  pl (mT g) kf (mb_67 g).2 (2, [(0, .ref o), (1, .int (nI i))], [], M1) (fun v M' => (∃ (s2 : Int32), (mtS f n E (by2 f fa) mj B B.length 0 = none) ∧ (PV g f n N E q M') ∧ (MV f B2 m2 G2 kk2 M') ∧ (MV f B mm G B.length M') ∧ (DM f n E mj q b B G B.length M'.2.1 M') ∧ (DF f n E B2 G2 B2.length M') ∧ v = some (.int 1) ∧ M'.1 ox = some (ob 8 [.ref q, .int (nI mj), .ref vd]) ∧ M'.1 og = some (ob 11 [.ref ga, .int gn, .ref gf, gk, .int gw]) ∧ M'.1 o = some (ob 2 [.ref c, .ref b, .ref q, .ref vd, .ref ac]) ∧ M'.1 c = some (ob 3 [.ref b, .ref q, .int mi, .int (nI mj), .int (nI fa), .int (nI ic), .ref fr, .ref mm, .int (nI na), .int (nI pa), .int k1, .int k2, .int k3, .int k4, .int k5, .int k6, .int k7]) ∧ M'.1 b = some (ob 1 [.ref da]) ∧ M'.1 da = some (ar .byte n f) ∧ M'.1 vd = some (ob 10 [.int ru, .int wa]) ∧ M'.1 ac = some (ob 0 [.ref c, .ref b, .ref q, .ref vd, .int s2]) ∧ M.2.1 ≤ M'.2.1) ∨ (∃ (e9 : Nat × Nat), (mtS f n E (by2 f fa) mj B B.length 0 = some e9) ∧ v = some (.int 0) ∧ M'.1 vd = some (ob 10 [.int (nI e9.1), .int (nI e9.2)]) ∧ M'.1 og = some (ob 11 [.ref ga, .int gn, .ref gf, gk, .int gw]) ∧ M.2.1 ≤ M'.2.1))) := by
    intro kf
    induction kf with
    | zero => exact (by intros; exact pl_0)
    | succ kf ih =>
      intro i t1 s2 M1 hl_ox hl_og hl_o hl_c hl_b hl_da hl_vd hl_ac hV1 hM1 hM21 hDO1 hDD1 tp1 ht hi hs
      refine ps_st1 (S' := (3, [(0, .ref o), (1, .int (nI i))], [.int (nI i)], M1)) rfl rfl rfl ?_
      obtain ⟨R, h_mm, hR⟩ := hM1.2.1
      have l_mm := hM1.1
      refine ps_st (S' := (4, [(0, .ref o), (1, .int (nI i))], [.ref o, .int (nI i)], M1)) rfl rfl rfl ?_
      refine ps_get (S' := (7, [(0, .ref o), (1, .int (nI i))], [.ref c, .int (nI i)], M1)) rfl hl_o rfl rfl ?_
      refine ps_get (S' := (10, [(0, .ref o), (1, .int (nI i))], [.ref mm, .int (nI i)], M1)) rfl hl_c rfl rfl ?_
      refine ps_aalen (S' := (11, [(0, .ref o), (1, .int (nI i))], [.int (nI B.length), .int (nI i)], M1)) rfl h_mm rfl ?_
      refine ps_if2 (S1 := (67, [(0, .ref o), (1, .int (nI i))], [], M1)) (S2 := (14, [(0, .ref o), (1, .int (nI i))], [], M1)) rfl rfl rfl (fun c_11 => ?_) (fun c_11 => ?_)
      · have c_11 : (nI B.length) ≤ (nI i) := of_decide_eq_true c_11
        have n_11 : B.length ≤ i := (le_nI (p := B.length) (n := i) (by omega) (by omega)).mp c_11
        refine ps_st (S' := (68, [(0, .ref o), (1, .int (nI i))], [.int 1], M1)) rfl rfl rfl ?_
        exact ps_ret rfl rfl (Or.inl ⟨s2, by rw [← hs, show B.length - i = 0 by omega]; rfl, hV1, hM21, hM1.le (by omega), by rw [show B.length = i by omega, tp1]; exact hDD1, hDO1, rfl, hl_ox, hl_og, hl_o, hl_c, hl_b, hl_da, hl_vd, hl_ac, by omega⟩)
      · have c_11 : ¬ ((nI B.length) ≤ (nI i)) := of_decide_eq_false c_11
        have n_11 : ¬ (B.length ≤ i) := fun h9 => c_11 ((le_nI (p := B.length) (n := i) (by omega) (by omega)).mpr h9)
        refine ps_st (S' := (15, [(0, .ref o), (1, .int (nI i))], [.ref o], M1)) rfl rfl rfl ?_
        refine ps_get (S' := (18, [(0, .ref o), (1, .int (nI i))], [.ref c], M1)) rfl hl_o rfl rfl ?_
        refine ps_get (S' := (21, [(0, .ref o), (1, .int (nI i))], [.ref mm], M1)) rfl hl_c rfl rfl ?_
        refine ps_st (S' := (22, [(0, .ref o), (1, .int (nI i))], [.int (nI i), .ref mm], M1)) rfl rfl rfl ?_
        obtain ⟨hl8, y1, y2, y3, y4, yv, hc8, hv8⟩ := hM1.2.2.2 i (by omega)
        obtain ⟨rfl, rfl, rfl, rfl, rfl⟩ := hv8 (Nat.le_refl _)
        obtain ⟨a, ha⟩ : ∃ a, G i = a := ⟨_, rfl⟩
        rw [ha] at hc8 hl8
        have hA : G i = a ∧ i < B.length ∧ i < i + 1 := ⟨ha, by omega, by omega⟩
        have hI9 := hM1.2.2.1
        have hM9 := hM1.le (Nat.le_succ i)
        have hb0 : B.getD i 0 = B.getD i 0 := rfl
        have hDa : ∀ j, j < B2.length → ¬ G2 j = a := fun j hj e9 => hD i j (by omega) hj (ha.trans e9.symm)
        have hDo : ∀ j, j < B2.length → j < B2.length → ¬ G2 j = a := fun j hj _ => hDa j hj
        have hDk : ∀ j, j < i → j < B.length → ¬ G j = a := fun j hj hb e9 => absurd (hI9 j i hb (by omega) (e9.trans ha.symm)) (by omega)
        obtain ⟨hb1, e0, hat⟩ := hB i (by omega)
        refine ps_aald (S' := (23, [(0, .ref o), (1, .int (nI i))], [.ref a], M1)) rfl h_mm (⟨by omega, by rw [hR i (by omega), ha]⟩) rfl ?_
        refine ps_st (S' := (24, [(2, .ref a), (0, .ref o), (1, .int (nI i))], [], M1)) rfl rfl rfl ?_
        refine ps_st (S' := (25, [(2, .ref a), (0, .ref o), (1, .int (nI i))], [.ref a], M1)) rfl rfl rfl ?_
        refine ps_st (S' := (31, [(2, .ref a), (0, .ref o), (1, .int (nI i))], [], M1)) rfl rfl rfl ?_
        refine ps_st (S' := (32, [(2, .ref a), (0, .ref o), (1, .int (nI i))], [.ref o], M1)) rfl rfl rfl ?_
        refine ps_st (S' := (33, [(2, .ref a), (0, .ref o), (1, .int (nI i))], [.ref a, .ref o], M1)) rfl rfl rfl ?_
        refine ps_st (S' := (34, [(2, .ref a), (0, .ref o), (1, .int (nI i))], [.int (nI i), .ref a, .ref o], M1)) rfl rfl rfl ?_
        refine pl_call (a := [.ref o, .ref a, .int (nI i)]) (rest := []) rfl rfl rfl (dk_methodHolds (f := f) (n := n) (N := N) (q := q) (E := E) (o := o) (c := c) (b := b) (da := da) (vd := vd) (ac := ac) (fr := fr) (fa := fa) (ic := ic) (mj := mj) (na := na) (pa := pa) (mi := mi) (ru := ru) (wa := wa) (k1 := k1) (k2 := k2) (k3 := k3) (k4 := k4) (k5 := k5) (k6 := k6) (k7 := k7) (a := a) (b0 := (B.getD i 0)) (kn := 0) (co := 0) (ap := 0) (ex := 0) (cd := .null) (B := B) (G := G) (mm := mm) (kk := (i + 1)) (i0 := i) hl_o hl_c hl_b hl_da hl_vd hc8 (hn) (hmj) (hfa) (hA) (rfl) (hB9) (hb1) (hV1) (hM9)) (fun v1 M2 q3 => ?_)
        rcases q3 with q3 | q3
        · skip
          obtain ⟨q34_s, rfl, h4, h5, f6⟩ := q3
          have h8 := (f6.1 ox (nin2 (ob_ne hl_ox hl_vd (by decide)) (ob_ne hl_ox hc8 (by decide)))).trans hl_ox
          have h9 := (f6.1 og (nin2 (ob_ne hl_og hl_vd (by decide)) (ob_ne hl_og hc8 (by decide)))).trans hl_og
          have h10 := (f6.1 o (nin2 (ob_ne hl_o hl_vd (by decide)) (ob_ne hl_o hc8 (by decide)))).trans hl_o
          have h11 := (f6.1 c (nin2 (ob_ne hl_c hl_vd (by decide)) (ob_ne hl_c hc8 (by decide)))).trans hl_c
          have h12 := (f6.1 b (nin2 (ob_ne hl_b hl_vd (by decide)) (ob_ne hl_b hc8 (by decide)))).trans hl_b
          have h13 := (f6.1 da (nin2 (Ne.symm (ob_ar hl_vd hl_da)) (Ne.symm (ob_ar hc8 hl_da)))).trans hl_da
          have h14 := (f6.1 ac (nin2 (ob_ne hl_ac hl_vd (by decide)) (ob_ne hl_ac hc8 (by decide)))).trans hl_ac
          have h15 := (f6.1 mm (nin2 (Ne.symm (ob_ro hl_vd h_mm)) (Ne.symm (ob_ro hc8 h_mm)))).trans h_mm
          have tp17 : M2.2.1 = t1 := by rw [f6.2]; exact tp1
          have hV18 := hV1.keep f6.gm (n7c hl_vd (by decide) (n7c hc8 (by decide) (n7nil)))
          have hV19 := hM9.keepA f6.gm (n6c hl_vd (by decide) (n6a (n6nil))) hA h5 hb0
          have hV20 := hM21.keepB f6.gm (n6c hl_vd (by decide) (n6a (n6nil))) hc8 hDa
          have hV21 := hDO1.keep f6.gm (nDc hl_vd (by decide) (nDa hc8 hDo (nDn)))
          have hV22 := hDD1.keep f6.gm (nDc hl_vd (by decide) (nDa hc8 hDk (nDn)))
          show pl _ _ _ (37, [(2, .ref a), (0, .ref o), (1, .int (nI i))], [.int 1], M2) _
          refine ps_if (S1 := (59, [], [], M2)) (S2 := (40, [(2, .ref a), (0, .ref o), (1, .int (nI i))], [], M2)) rfl rfl rfl (fun c_37 => ?_) (fun c_37 => ?_)
          · exact absurd (of_decide_eq_true c_37) (by decide)
          refine ps_st (S' := (41, [(2, .ref a), (0, .ref o), (1, .int (nI i))], [.ref o], M2)) rfl rfl rfl ?_
          refine ps_get (S' := (44, [(2, .ref a), (0, .ref o), (1, .int (nI i))], [.ref ac], M2)) rfl h10 rfl rfl ?_
          refine ps_st (S' := (45, [(2, .ref a), (0, .ref o), (1, .int (nI i))], [.ref a, .ref ac], M2)) rfl rfl rfl ?_
          have htq := tp17
          refine pl_call (a := [.ref ac, .ref a]) (rest := []) rfl rfl rfl (dk_ofMethod7 (f := f) (n := n) (N := N) (q := q) (E := E) (ac := ac) (c := c) (b := b) (da := da) (vd := vd) (fr := fr) (mr := mm) (fa := fa) (ic := ic) (mj := mj) (na := na) (pa := pa) (mi := mi) (ru := ru) (wa := wa) (s1 := s2) (k1 := k1) (k2 := k2) (k3 := k3) (k4 := k4) (k5 := k5) (k6 := k6) (k7 := k7) (a := a) (b0 := (B.getD i 0)) (e0 := e0) (w := (apN f n E (B.getD i 0))) (kn := 0) (co := 0) h14 h12 h13 h11 h4 h5 (hn) (hmj) (hb1) (hat) (Nat.lt_trans (apN_lt _ _ _ _) (by decide)) (hV18) (by omega) (by omega) (by omega) (by omega) (by omega) (by omega) (by omega)) (fun v23 M24 q25 => ?_)
          rcases q25 with q25 | q25
          · skip
            obtain ⟨h26, s227, K28, cd229, q45_s, q45_h, q45_U, q45_C, rfl, h30, h31, h32, f33, tp34⟩ := q25
            have h35 := (f33.1 ox (by omega) (nin3 (ob_ne h8 h14 (by decide)) (ob_ne h8 h4 (by decide)) (ob_ne h8 h5 (by decide)))).trans h8
            have h36 := (f33.1 og (by omega) (nin3 (ob_ne h9 h14 (by decide)) (ob_ne h9 h4 (by decide)) (ob_ne h9 h5 (by decide)))).trans h9
            have h37 := (f33.1 o (by omega) (nin3 (ob_ne h10 h14 (by decide)) (ob_ne h10 h4 (by decide)) (ob_ne h10 h5 (by decide)))).trans h10
            have h38 := (f33.1 c (by omega) (nin3 (ob_ne h11 h14 (by decide)) (ob_ne h11 h4 (by decide)) (ob_ne h11 h5 (by decide)))).trans h11
            have h39 := (f33.1 b (by omega) (nin3 (ob_ne h12 h14 (by decide)) (ob_ne h12 h4 (by decide)) (ob_ne h12 h5 (by decide)))).trans h12
            have h40 := (f33.1 da (by omega) (nin3 (Ne.symm (ob_ar h14 h13)) (Ne.symm (ob_ar h4 h13)) (Ne.symm (ob_ar h5 h13)))).trans h13
            have h41 := (f33.1 mm (by omega) (nin3 (Ne.symm (ob_ro h14 h15)) (Ne.symm (ob_ro h4 h15)) (Ne.symm (ob_ro h5 h15)))).trans h15
            obtain ⟨t43, tp44⟩ : ∃ t9, M24.2.1 = t9 := ⟨_, rfl⟩
            rw [tp17, tp44] at tp34
            have hV45 := hV18.keep f33 (n7c h14 (by decide) (n7c h4 (by decide) (n7c h5 (by decide) (n7nil))))
            have hV46 := hV19.keepA f33 (n6c h14 (by decide) (n6c h4 (by decide) (n6a (n6nil)))) hA h32 hb0
            have hV47 := hV20.keepB f33 (n6c h14 (by decide) (n6c h4 (by decide) (n6a (n6nil)))) h5 hDa
            have hV48 := hV21.keep f33 (nDc h14 (by decide) (nDc h4 (by decide) (nDa h5 hDo (nDn))))
            have hV49 := hV22.keep f33 (nDc h14 (by decide) (nDc h4 (by decide) (nDa h5 hDk (nDn))))
            show pl _ _ _ (48, [(2, .ref a), (0, .ref o), (1, .int (nI i))], [.int 1], M24) _
            refine ps_if (S1 := (59, [], [], M24)) (S2 := (51, [(2, .ref a), (0, .ref o), (1, .int (nI i))], [], M24)) rfl rfl rfl (fun c_48 => ?_) (fun c_48 => ?_)
            · exact absurd (of_decide_eq_true c_48) (by decide)
            refine ps_st (S' := (52, [(2, .ref a), (0, .ref o), (1, .int (nI i))], [.ref o], M24)) rfl rfl rfl ?_
            refine ps_st (S' := (53, [(2, .ref a), (0, .ref o), (1, .int (nI i))], [.ref a, .ref o], M24)) rfl rfl rfl ?_
            refine pl_call (a := [.ref o, .ref a]) (rest := []) rfl rfl rfl (dk_codeIsDue (f := f) (n := n) (N := N) (q := q) (E := E) (o := o) (c := c) (b := b) (da := da) (vd := vd) (ac := ac) (fr := fr) (mr := mm) (fa := fa) (ic := ic) (mj := mj) (na := na) (pa := pa) (mi := mi) (ru := ru) (wa := wa) (k1 := k1) (k2 := k2) (k3 := k3) (k4 := k4) (k5 := k5) (k6 := k6) (k7 := k7) (a := a) (b0 := (B.getD i 0)) (kn := (nI K28.1)) (co := 0) (ap := (nI (apN f n E (B.getD i 0)))) (ex := (nI K28.2.2)) (cd := cd229) (h := h26) h37 h38 h39 h40 h30 h32 (hn) (hmj) (hfa) (q45_h) (hV45)) (fun v50 M51 q52 => ?_)
            rcases q52 with q52 | q52
            · skip
              obtain ⟨q53_s, rfl, h53, f54⟩ := q52
              have h56 := (f54.1 ox (nin1 (ob_ne h35 h30 (by decide)))).trans h35
              have h57 := (f54.1 og (nin1 (ob_ne h36 h30 (by decide)))).trans h36
              have h58 := (f54.1 o (nin1 (ob_ne h37 h30 (by decide)))).trans h37
              have h59 := (f54.1 c (nin1 (ob_ne h38 h30 (by decide)))).trans h38
              have h60 := (f54.1 b (nin1 (ob_ne h39 h30 (by decide)))).trans h39
              have h61 := (f54.1 da (nin1 (Ne.symm (ob_ar h30 h40)))).trans h40
              have h62 := (f54.1 ac (nin1 (ob_ne h31 h30 (by decide)))).trans h31
              have h63 := (f54.1 mm (nin1 (Ne.symm (ob_ro h30 h41)))).trans h41
              have h64 := (f54.1 a (nin1 (ob_ne h32 h30 (by decide)))).trans h32
              have tp66 : M51.2.1 = t43 := by rw [f54.2]; exact tp44
              have hV67 := hV45.keep f54.gm (n7c h30 (by decide) (n7nil))
              have hV68 := hV46.keep f54.gm (n6o h30 (by decide) (n6on))
              have hV69 := hV47.keep f54.gm (n6o h30 (by decide) (n6on))
              have hV70 := hV48.keep f54.gm (nDc h30 (by decide) (nDn))
              have hV71 := hV49.keep f54.gm (nDc h30 (by decide) (nDn))
              have hV72 := q45_C.keep f54.gm (nCc h30 (by decide) (nCn))
              show pl _ _ _ (56, [(2, .ref a), (0, .ref o), (1, .int (nI i))], [.int 1], M51) _
              refine ps_if (S1 := (61, [(0, .ref o), (1, .int (nI i))], [], M51)) (S2 := (59, [], [], M51)) rfl rfl rfl (fun c_56 => ?_) (fun c_56 => ?_)
              rotate_left
              · exact absurd (by decide) (of_decide_eq_false c_56)
              refine ps_st (S' := (64, [(1, .int ((nI i) + 1)), (0, .ref o)], [], M51)) rfl rfl rfl ?_
              rw [nI_add1 (p := i) (k := 1) (x := 1) rfl (by omega)]
              show pl _ _ _ (_, [(1, .int (nI (i + 1))), (0, .ref o)], [], M51) _
              refine ps_st (S' := (2, [(0, .ref o), (1, .int (nI (i + 1)))], [], M51)) rfl rfl rfl ?_
              have hK9 : mK f n E (B.getD i 0) = K28 := q45_U
              have hc7 := h64
              have hDD9 := hV71.snoc (T' := t43) ha (by omega) (by rw [hK9]; exact hc7) (by rw [hK9]; exact hV72) (by omega) (by omega) (by omega)
              exact ih (i + 1) (t43) (s227) M51 h56 h57 h58 h59 h60 h61 h53 h62 hV67 hV68 hV69 hV70 hDD9  (tp66) (by omega) (by omega) (by
                  rw [← hs, mtS_st (i := i) (by omega)]
                  rw [q34_s]
                  try dsimp only
                  rw [q45_s]
                  try dsimp only
                  rw [q53_s]
                  try dsimp only
                  first | done | rfl)
            · skip
              obtain ⟨e73, q53_s, rfl, h74, f75⟩ := q52
              have h77 := (f75.1 ox (nin1 (ob_ne h35 h30 (by decide)))).trans h35
              have h78 := (f75.1 og (nin1 (ob_ne h36 h30 (by decide)))).trans h36
              have h79 := (f75.1 o (nin1 (ob_ne h37 h30 (by decide)))).trans h37
              have h80 := (f75.1 c (nin1 (ob_ne h38 h30 (by decide)))).trans h38
              have h81 := (f75.1 b (nin1 (ob_ne h39 h30 (by decide)))).trans h39
              have h82 := (f75.1 da (nin1 (Ne.symm (ob_ar h30 h40)))).trans h40
              have h83 := (f75.1 ac (nin1 (ob_ne h31 h30 (by decide)))).trans h31
              have h84 := (f75.1 mm (nin1 (Ne.symm (ob_ro h30 h41)))).trans h41
              have h85 := (f75.1 a (nin1 (ob_ne h32 h30 (by decide)))).trans h32
              have tp87 : M51.2.1 = t43 := by rw [f75.2]; exact tp44
              have hV88 := hV45.keep f75.gm (n7c h30 (by decide) (n7nil))
              have hV89 := hV46.keep f75.gm (n6o h30 (by decide) (n6on))
              have hV90 := hV47.keep f75.gm (n6o h30 (by decide) (n6on))
              have hV91 := hV48.keep f75.gm (nDc h30 (by decide) (nDn))
              have hV92 := hV49.keep f75.gm (nDc h30 (by decide) (nDn))
              have hV93 := q45_C.keep f75.gm (nCc h30 (by decide) (nCn))
              show pl _ _ _ (56, [(2, .ref a), (0, .ref o), (1, .int (nI i))], [.int 0], M51) _
              refine ps_if (S1 := (61, [(0, .ref o), (1, .int (nI i))], [], M51)) (S2 := (59, [], [], M51)) rfl rfl rfl (fun c_56 => ?_) (fun c_56 => ?_)
              · exact absurd (of_decide_eq_true c_56) (by decide)
              refine ps_st (S' := (60, [], [.int 0], M51)) rfl rfl rfl ?_
              exact ps_ret rfl rfl (Or.inr ⟨e73, by
                  rw [← hs, mtS_st (i := i) (by omega)]
                  rw [q34_s]
                  try dsimp only
                  rw [q45_s]
                  try dsimp only
                  rw [q53_s]
                  try dsimp only
                  first | done | rfl, rfl, h74, h78, by omega⟩)
          · skip
            obtain ⟨e994, q45_s, rfl, h95, f96, tp97⟩ := q25
            have h98 := (f96.1 ox (by omega) (nin3 (ob_ne h8 h14 (by decide)) (ob_ne h8 h4 (by decide)) (ob_ne h8 h5 (by decide)))).trans h8
            have h99 := (f96.1 og (by omega) (nin3 (ob_ne h9 h14 (by decide)) (ob_ne h9 h4 (by decide)) (ob_ne h9 h5 (by decide)))).trans h9
            have h100 := (f96.1 o (by omega) (nin3 (ob_ne h10 h14 (by decide)) (ob_ne h10 h4 (by decide)) (ob_ne h10 h5 (by decide)))).trans h10
            have h101 := (f96.1 c (by omega) (nin3 (ob_ne h11 h14 (by decide)) (ob_ne h11 h4 (by decide)) (ob_ne h11 h5 (by decide)))).trans h11
            have h102 := (f96.1 b (by omega) (nin3 (ob_ne h12 h14 (by decide)) (ob_ne h12 h4 (by decide)) (ob_ne h12 h5 (by decide)))).trans h12
            have h103 := (f96.1 da (by omega) (nin3 (Ne.symm (ob_ar h14 h13)) (Ne.symm (ob_ar h4 h13)) (Ne.symm (ob_ar h5 h13)))).trans h13
            have h104 := (f96.1 mm (by omega) (nin3 (Ne.symm (ob_ro h14 h15)) (Ne.symm (ob_ro h4 h15)) (Ne.symm (ob_ro h5 h15)))).trans h15
            obtain ⟨t106, tp107⟩ : ∃ t9, M24.2.1 = t9 := ⟨_, rfl⟩
            rw [tp17, tp107] at tp97
            have hV108 := hV18.keep f96 (n7c h14 (by decide) (n7c h4 (by decide) (n7c h5 (by decide) (n7nil))))
            have hV109 := hV20.keepB f96 (n6c h14 (by decide) (n6c h4 (by decide) (n6a (n6nil)))) h5 hDa
            have hV110 := hV21.keep f96 (nDc h14 (by decide) (nDc h4 (by decide) (nDa h5 hDo (nDn))))
            have hV111 := hV22.keep f96 (nDc h14 (by decide) (nDc h4 (by decide) (nDa h5 hDk (nDn))))
            show pl _ _ _ (48, [(2, .ref a), (0, .ref o), (1, .int (nI i))], [.int 0], M24) _
            refine ps_if (S1 := (59, [], [], M24)) (S2 := (51, [(2, .ref a), (0, .ref o), (1, .int (nI i))], [], M24)) rfl rfl rfl (fun c_48 => ?_) (fun c_48 => ?_)
            rotate_left
            · exact absurd (by decide) (of_decide_eq_false c_48)
            refine ps_st (S' := (60, [], [.int 0], M24)) rfl rfl rfl ?_
            exact ps_ret rfl rfl (Or.inr ⟨e994, by
                rw [← hs, mtS_st (i := i) (by omega)]
                rw [q34_s]
                try dsimp only
                rw [q45_s]
                try dsimp only
                first | done | rfl, rfl, h95, h99, by omega⟩)
        · skip
          obtain ⟨e112, q34_s, rfl, h113, f114⟩ := q3
          have h116 := (f114.1 ox (nin2 (ob_ne hl_ox hl_vd (by decide)) (ob_ne hl_ox hc8 (by decide)))).trans hl_ox
          have h117 := (f114.1 og (nin2 (ob_ne hl_og hl_vd (by decide)) (ob_ne hl_og hc8 (by decide)))).trans hl_og
          have h118 := (f114.1 o (nin2 (ob_ne hl_o hl_vd (by decide)) (ob_ne hl_o hc8 (by decide)))).trans hl_o
          have h119 := (f114.1 c (nin2 (ob_ne hl_c hl_vd (by decide)) (ob_ne hl_c hc8 (by decide)))).trans hl_c
          have h120 := (f114.1 b (nin2 (ob_ne hl_b hl_vd (by decide)) (ob_ne hl_b hc8 (by decide)))).trans hl_b
          have h121 := (f114.1 da (nin2 (Ne.symm (ob_ar hl_vd hl_da)) (Ne.symm (ob_ar hc8 hl_da)))).trans hl_da
          have h122 := (f114.1 ac (nin2 (ob_ne hl_ac hl_vd (by decide)) (ob_ne hl_ac hc8 (by decide)))).trans hl_ac
          have h123 := (f114.1 mm (nin2 (Ne.symm (ob_ro hl_vd h_mm)) (Ne.symm (ob_ro hc8 h_mm)))).trans h_mm
          have tp125 : M2.2.1 = t1 := by rw [f114.2]; exact tp1
          have hV126 := hV1.keep f114.gm (n7c hl_vd (by decide) (n7c hc8 (by decide) (n7nil)))
          have hV127 := hM21.keepB f114.gm (n6c hl_vd (by decide) (n6a (n6nil))) hc8 hDa
          have hV128 := hDO1.keep f114.gm (nDc hl_vd (by decide) (nDa hc8 hDo (nDn)))
          have hV129 := hDD1.keep f114.gm (nDc hl_vd (by decide) (nDa hc8 hDk (nDn)))
          show pl _ _ _ (37, [(2, .ref a), (0, .ref o), (1, .int (nI i))], [.int 0], M2) _
          refine ps_if (S1 := (59, [], [], M2)) (S2 := (40, [(2, .ref a), (0, .ref o), (1, .int (nI i))], [], M2)) rfl rfl rfl (fun c_37 => ?_) (fun c_37 => ?_)
          rotate_left
          · exact absurd (by decide) (of_decide_eq_false c_37)
          refine ps_st (S' := (60, [], [.int 0], M2)) rfl rfl rfl ?_
          exact ps_ret rfl rfl (Or.inr ⟨e112, by
              rw [← hs, mtS_st (i := i) (by omega)]
              rw [q34_s]
              try dsimp only
              first | done | rfl, rfl, h113, h117, by omega⟩)
  refine ps_st (S' := (1, [(0, .ref o)], [.int 0], M)) rfl rfl rfl ?_
  refine ps_st (S' := (2, [(0, .ref o), (1, .int 0)], [], M)) rfl rfl rfl ?_
  exact (LL kf) (0) (z0) (s1) M h_ox h_og h_o h_c h_b h_da h_vd h_ac hV hM hM2 hDO hDD  (tp0) (Nat.le_refl _) (by omega) (rfl)
end
section
/-! what members tell, in the reference's rows (my own text) -/
section RUA
variable {f : Nat → Int32} {n : Nat} {E : List (Nat × Nat)} {x : Nat} {R0 : rR} {I I' : rI} {R R' : rR}
theorem rset_o {c i j a : Nat} {v : Int32} (h : ¬ i = j) : rset R c j v a i = R a i := by
  by_cases e : a = c
  · subst e
    exact rset_el h
  · rw [rset_ne e]
theorem stF_9 {p : Nat} {K : Nat × Nat} : stF f x 1 p K = (K.1 + 1, if aN x 8 = 0 then K.2 else by2 f (p + 6)) := by
  by_cases h : aN x 8 = 0
  · rw [if_pos h]
    exact stF_n (has_9.mpr h)
  · rw [if_neg h]
    exact stF_s (fun h9 => h (has_9.mp h9))
/-- a field's constant and how many of its attributes are known; other fields are as they were -/
def FW (x : Nat) (K : Nat × Nat) (R0 : rR) (I : rI) (R : rR) : Prop := R 30 x = some (nI K.2) ∧ R 31 x = some (nI K.1) ∧ ∀ j, ¬ j = x → R 30 j = R0 30 j ∧ R 31 j = R0 31 j
theorem FW.mono {K : Nat × Nat} (h : FW x K R0 I R) (hI : ∀ k, k ∈ ([] : List Nat) → I' k = I k) (hR : ∀ k, k ∈ [30, 31] → R' k = R k) : FW x K R0 I' R' := by
  unfold FW
  rw [hR 30 (by decide), hR 31 (by decide)]
  exact h
theorem FW.s30 {K : Nat × Nat} {k2 : Nat} (h : FW x K R0 I R) (hs : R' = rset R 30 x (nI k2)) : FW x (K.1, k2) R0 I' R' := by
  subst hs
  refine ⟨rset_at, ?_, fun j hj => ?_⟩
  · rw [rset_ne (by decide)]
    exact h.2.1
  · rw [rset_o hj, rset_o hj]
    exact h.2.2 j hj
theorem FW.s31 {K : Nat × Nat} {k1 : Nat} (h : FW x K R0 I R) (hs : R' = rset R 31 x (nI k1)) : FW x (k1, K.2) R0 I' R' := by
  subst hs
  refine ⟨?_, rset_at, fun j hj => ?_⟩
  · rw [rset_ne (by decide)]
    exact h.1
  · rw [rset_o hj, rset_o hj]
    exact h.2.2 j hj
/-- fields that have been looked at -/
def FQ (f : Nat → Int32) (n : Nat) (E : List (Nat × Nat)) (B : List Nat) (f0 k : Nat) (I : rI) (R : rR) : Prop := ∀ j, j < k → R 27 (f0 + j) = some (nI (by2 f (B.getD j 0))) ∧ R 30 (f0 + j) = some (nI (fK f n E (B.getD j 0)).2) ∧ R 31 (f0 + j) = some (nI (fK f n E (B.getD j 0)).1) ∧ R 32 (f0 + j) = some (nI (by2 f (B.getD j 0 + 2))) ∧ R 33 (f0 + j) = some (nI (by2 f (B.getD j 0 + 4)))
theorem FQ.mono {B : List Nat} {f0 k : Nat} (h : FQ f n E B f0 k I R) (hI : ∀ k, k ∈ ([] : List Nat) → I' k = I k) (hR : ∀ k, k ∈ [27, 30, 31, 32, 33] → R' k = R k) : FQ f n E B f0 k I' R' := by
  unfold FQ
  rw [hR 27 (by decide), hR 30 (by decide), hR 31 (by decide), hR 32 (by decide), hR 33 (by decide)]
  exact h
theorem FQ.st {B : List Nat} {f0 k c : Nat} {v : Int32} (h : FQ f n E B f0 k I R) (hs : R' = rset R c x v) (hx : x = f0 + k) : FQ f n E B f0 k I' R' := fun j hj => by
  subst hs
  rw [rset_o (by omega), rset_o (by omega), rset_o (by omega), rset_o (by omega), rset_o (by omega)]
  exact h j hj
theorem FQ.ex {B : List Nat} {f0 k : Nat} {K : Nat × Nat} (h : FQ f n E B f0 k I R) (hE : eqR [30, 31] R R') (hW : FW (f0 + k) K R I' R') : FQ f n E B f0 k I' R' := fun j hj => by
  obtain ⟨h1, h2⟩ := hW.2.2 (f0 + j) (by omega)
  rw [hE 27 (by decide), h1, h2, hE 32 (by decide), hE 33 (by decide)]
  exact h j hj
theorem FQ.more {B : List Nat} {f0 k p : Nat} {K : Nat × Nat} (h : FQ f n E B f0 k I R) (hp : p = B.getD k 0) (hW : FW (f0 + k) K R0 I R) (hK : fK f n E p = K) (h1 : CE 27 (f0 + k) (nI (by2 f p)) I R) (h2 : CE 32 (f0 + k) (nI (by2 f (p + 2))) I R) (h3 : CE 33 (f0 + k) (nI (by2 f (p + 4))) I R) : FQ f n E B f0 (k + 1) I R := fun j hj => by
  by_cases e : j = k
  · rw [e, ← hp, hK]
    exact ⟨h1, hW.1, hW.2.1, h2, h3⟩
  · exact h j (by omega)
/-- a method's code, how many of its attributes are known, its exceptions -/
def MWc (f : Nat → Int32) (x : Nat) (K : Nat × Nat × Nat) (I : rI) (R : rR) : Prop := (R 37 x = some (if K.2.1 = 0 then -1 else nI (K.2.1 + 14)) ∧ R 38 x = some (if K.2.1 = 0 then 0 else nI (by4 f (K.2.1 + 10))) ∧ R 39 x = some (if K.2.1 = 0 then 0 else nI (by2 f (K.2.1 + 6))) ∧ R 40 x = some (if K.2.1 = 0 then 0 else nI (by2 f (K.2.1 + 8))) ∧ (¬ K.2.1 = 0 → R 41 x = some (nI (K.2.1 + 14 + by4 f (K.2.1 + 10) + 2))) ∧ R 42 x = some (if K.2.1 = 0 then 0 else nI (by2 f (K.2.1 + 14 + by4 f (K.2.1 + 10))))) ∧ R 43 x = some (nI K.1) ∧ R 44 x = some (nI K.2.2)
theorem MWc.cg {K : Nat × Nat × Nat} (h : MWc f x K I R) (hR : ∀ a, a ∈ [37, 38, 39, 40, 41, 42, 43, 44] → R' a x = R a x) : MWc f x K I' R' := by
  unfold MWc
  rw [hR 37 (by decide), hR 38 (by decide), hR 39 (by decide), hR 40 (by decide), hR 41 (by decide), hR 42 (by decide), hR 43 (by decide), hR 44 (by decide)]
  exact h
theorem MWc.mono {K : Nat × Nat × Nat} (h : MWc f x K I R) (hI : ∀ k, k ∈ ([] : List Nat) → I' k = I k) (hR : ∀ k, k ∈ [37, 38, 39, 40, 41, 42, 43, 44] → R' k = R k) : MWc f x K I' R' := h.cg (fun a ha => by rw [hR a ha])
/-- the same; other methods are as they were -/
def MW (f : Nat → Int32) (x : Nat) (K : Nat × Nat × Nat) (R0 : rR) (I : rI) (R : rR) : Prop := MWc f x K I R ∧ ∀ a, a ∈ [37, 38, 39, 40, 41, 42, 43, 44] → ∀ j, ¬ j = x → R a j = R0 a j
theorem MW.mono {K : Nat × Nat × Nat} (h : MW f x K R0 I R) (hI : ∀ k, k ∈ ([] : List Nat) → I' k = I k) (hR : ∀ k, k ∈ [37, 38, 39, 40, 41, 42, 43, 44] → R' k = R k) : MW f x K R0 I' R' :=
  ⟨h.1.mono hI hR, fun a ha j hj => by rw [hR a ha]; exact h.2 a ha j hj⟩
theorem MW.s43 {K : Nat × Nat × Nat} {k1 : Nat} (h : MW f x K R0 I R) (hs : R' = rset R 43 x (nI k1)) : MW f x (k1, K.2) R0 I' R' := by
  subst hs
  obtain ⟨⟨⟨h1, h2, h3, h4, h5, h6⟩, h7, h8⟩, h9⟩ := h
  refine ⟨⟨⟨?_, ?_, ?_, ?_, fun g => ?_, ?_⟩, rset_at, ?_⟩, fun a ha j hj => by rw [rset_o hj]; exact h9 a ha j hj⟩
  · rw [rset_ne (by decide)]; exact h1
  · rw [rset_ne (by decide)]; exact h2
  · rw [rset_ne (by decide)]; exact h3
  · rw [rset_ne (by decide)]; exact h4
  · rw [rset_ne (by decide)]; exact h5 g
  · rw [rset_ne (by decide)]; exact h6
  · rw [rset_ne (by decide)]; exact h8
theorem MW.s44 {K : Nat × Nat × Nat} {k3 : Nat} (h : MW f x K R0 I R) (hs : R' = rset R 44 x (nI k3)) : MW f x (K.1, K.2.1, k3) R0 I' R' := by
  subst hs
  obtain ⟨⟨⟨h1, h2, h3, h4, h5, h6⟩, h7, h8⟩, h9⟩ := h
  refine ⟨⟨⟨?_, ?_, ?_, ?_, fun g => ?_, ?_⟩, ?_, rset_at⟩, fun a ha j hj => by rw [rset_o hj]; exact h9 a ha j hj⟩
  · rw [rset_ne (by decide)]; exact h1
  · rw [rset_ne (by decide)]; exact h2
  · rw [rset_ne (by decide)]; exact h3
  · rw [rset_ne (by decide)]; exact h4
  · rw [rset_ne (by decide)]; exact h5 g
  · rw [rset_ne (by decide)]; exact h6
  · rw [rset_ne (by decide)]; exact h7
theorem MW.code {K : Nat × Nat × Nat} {p : Nat} {R1 R2 R3 R4 R5 R6 : rR} (h : MW f x K R0 I R) (hp : ¬ p = 0) (e1 : R1 = rset R 39 x (nI (by2 f (p + 6)))) (e2 : R2 = rset R1 40 x (nI (by2 f (p + 8)))) (e3 : R3 = rset R2 38 x (nI (by4 f (p + 10)))) (e4 : R4 = rset R3 37 x (nI (p + 14))) (e5 : R5 = rset R4 41 x (nI (p + 14 + by4 f (p + 10) + 2))) (e6 : R6 = rset R5 42 x (nI (by2 f (p + 14 + by4 f (p + 10))))) : MW f x (K.1, p, K.2.2) R0 I' R6 := by
  subst e1 e2 e3 e4 e5 e6
  obtain ⟨⟨-, h7, h8⟩, h9⟩ := h
  refine ⟨⟨⟨?_, ?_, ?_, ?_, fun _ => ?_, ?_⟩, ?_, ?_⟩, fun a ha j hj => by rw [rset_o hj, rset_o hj, rset_o hj, rset_o hj, rset_o hj, rset_o hj]; exact h9 a ha j hj⟩
  · rw [rset_ne (by decide), rset_ne (by decide), rset_at]
    exact congrArg some (if_neg hp).symm
  · rw [rset_ne (by decide), rset_ne (by decide), rset_ne (by decide), rset_at]
    exact congrArg some (if_neg hp).symm
  · rw [rset_ne (by decide), rset_ne (by decide), rset_ne (by decide), rset_ne (by decide), rset_ne (by decide), rset_at]
    exact congrArg some (if_neg hp).symm
  · rw [rset_ne (by decide), rset_ne (by decide), rset_ne (by decide), rset_ne (by decide), rset_at]
    exact congrArg some (if_neg hp).symm
  · rw [rset_ne (by decide), rset_at]
  · rw [rset_at]
    exact congrArg some (if_neg hp).symm
  · rw [rset_ne (by decide), rset_ne (by decide), rset_ne (by decide), rset_ne (by decide), rset_ne (by decide), rset_ne (by decide)]
    exact h7
  · rw [rset_ne (by decide), rset_ne (by decide), rset_ne (by decide), rset_ne (by decide), rset_ne (by decide), rset_ne (by decide)]
    exact h8
theorem MWc.nil (h1 : CE 37 x (-1) I R) (h2 : CE 38 x 0 I R) (h3 : CE 39 x 0 I R) (h4 : CE 40 x 0 I R) (h6 : CE 42 x 0 I R) (h7 : CE 43 x 0 I R) (h8 : CE 44 x 0 I R) : MWc f x (0, 0, 0) I R :=
  ⟨⟨h1, h2, h3, h4, fun g => absurd rfl g, h6⟩, h7, h8⟩
/-- methods that have been looked at -/
def MQX (f : Nat → Int32) (n : Nat) (E : List (Nat × Nat)) (B : List Nat) (f0 k : Nat) (I : rI) (R : rR) : Prop := ∀ j, j < k → R 34 (f0 + j) = some (nI (by2 f (B.getD j 0))) ∧ MWc f (f0 + j) (mK f n E (B.getD j 0)) I R ∧ R 45 (f0 + j) = some (nI (by2 f (B.getD j 0 + 2))) ∧ R 46 (f0 + j) = some (nI (by2 f (B.getD j 0 + 4)))
theorem MQX.mono {B : List Nat} {f0 k : Nat} (h : MQX f n E B f0 k I R) (hI : ∀ k, k ∈ ([] : List Nat) → I' k = I k) (hR : ∀ k, k ∈ [34, 37, 38, 39, 40, 41, 42, 43, 44, 45, 46] → R' k = R k) : MQX f n E B f0 k I' R' := fun j hj => by
  obtain ⟨h1, h2, h3, h4⟩ := h j hj
  rw [hR 34 (by decide), hR 45 (by decide), hR 46 (by decide)]
  exact ⟨h1, h2.cg (fun a ha => by rw [hR a (by revert a; decide)]), h3, h4⟩
theorem MQX.st {B : List Nat} {f0 k c : Nat} {v : Int32} (h : MQX f n E B f0 k I R) (hs : R' = rset R c x v) (hx : x = f0 + k) : MQX f n E B f0 k I' R' := fun j hj => by
  subst hs
  obtain ⟨h1, h2, h3, h4⟩ := h j hj
  rw [rset_o (by omega), rset_o (by omega), rset_o (by omega)]
  exact ⟨h1, h2.cg (fun a _ => rset_o (by omega)), h3, h4⟩
theorem MQX.ex {B : List Nat} {f0 k : Nat} {K : Nat × Nat × Nat} (h : MQX f n E B f0 k I R) (hE : eqR [37, 38, 39, 40, 41, 42, 43, 44] R R') (hW : MW f (f0 + k) K R I' R') : MQX f n E B f0 k I' R' := fun j hj => by
  obtain ⟨h1, h2, h3, h4⟩ := h j hj
  rw [hE 34 (by decide), hE 45 (by decide), hE 46 (by decide)]
  exact ⟨h1, h2.cg (fun a ha => hW.2 a ha (f0 + j) (by omega)), h3, h4⟩
theorem MQX.more {B : List Nat} {f0 k p : Nat} {K : Nat × Nat × Nat} (h : MQX f n E B f0 k I R) (hp : p = B.getD k 0) (hW : MW f (f0 + k) K R0 I R) (hK : mK f n E p = K) (h1 : CE 34 (f0 + k) (nI (by2 f p)) I R) (h2 : CE 45 (f0 + k) (nI (by2 f (p + 2))) I R) (h3 : CE 46 (f0 + k) (nI (by2 f (p + 4))) I R) : MQX f n E B f0 (k + 1) I R := fun j hj => by
  by_cases e : j = k
  · rw [e, ← hp, hK]
    exact ⟨h1, hW.1, h2, h3⟩
  · exact h j (by omega)
theorem stM_w {w p : Nat} {K : Nat × Nat × Nat} (hw : w = 1 ∨ w = 2) : stM f (w + 1) p K = if w = 1 then (K.1 + 1, p, K.2.2) else (K.1 + 1, K.2.1, by2 f (p + 6)) := by
  rcases hw with rfl | rfl
  · rw [if_pos rfl]
    exact stM_2
  · rw [if_neg (by decide)]
    exact stM_3
end RUA
set_option maxHeartbeats 4000000 in
theorem rd_attr07 {g : xe_G} {m0 : Nat} {q : Nat → Nat} {z : Nat × Nat} {I : rI} {R : rR} {M : mi_H} {n : Nat} {f : Nat → Int32} {tx : List (List Nat)} {cN : Nat} {A : Nat → Nat} {N mj : Nat} {E : List (Nat × Nat)} {p0 e x s3 : Nat} {t : Int32} {fl ds : Nat} {l : List Nat} {K : Nat × Nat} {R0 : rR} (hR : RS g m0 q z I R M) (hi51 : I 51 = some 0) (hi52 : I 52 = some (nI N)) (hi53 : I 53 = some (nI mj)) (hF : FK n f I R) (hY : SYT tx cN A I R) (hP : RPV f n E tx N I R) (hW : FW x K R0 I R) (hEP : EP f n E) (hN : N < 65536) (hmj : mj < 65536) (he : p0 ≤ e ∧ e ≤ n) (hs3 : s3 < 2048) (hx : x < 8300) (hfl : R 27 x = some (nI fl)) (hds : R 29 x = some (nI ds)) (hdt : ds < tx.length ∧ tx.getD ds [] = l) (hfd : ¬ fldN l = 0) (hf6 : fl < 65536) : pt (mT g) 177 [.ref m0, .int 0, .int t, .int (nI p0), .int (nI e), .int (nI x), .int (nI s3)] M (fun v M' => (∃  (I' : rI) (R' : rR), (¬ s_fe f 1 p0 e = some e) ∧ v = some (.int 30) ∧ RS g m0 q z I' R' M' ∧ eqI [] I I' ∧ eqR [30] R R') ∨ (∃  (I' : rI) (R' : rR), (s_fe f 1 p0 e = some e) ∧ (¬ aN fl 8 = 0 ∧ ¬ ctS l = some (tg f E (by2 f p0))) ∧ v = some (.int 31) ∧ RS g m0 q z I' R' M' ∧ eqI [] I I' ∧ eqR [30] R R') ∨ (∃  (I' : rI) (R' : rR), (s_fe f 1 p0 e = some e) ∧ (aN fl 8 = 0 ∨ ctS l = some (tg f E (by2 f p0))) ∧ v = some (.int 0) ∧ RS g m0 q z I' R' M' ∧ eqI [] I I' ∧ eqR [30] R R' ∧ FW x (K.1, if aN fl 8 = 0 then K.2 else by2 f p0) R0 I' R')) := by
  refine pt_in (b := mb_177 g) rfl (fun kf => ?_)
  show pl (mT g) kf (mb_177 g).2 (0, [(0, .ref m0), (1, .int 0), (2, .int t), (3, .int (nI p0)), (4, .int (nI e)), (5, .int (nI x)), (6, .int (nI s3))], [], M) _
  have hEI : eqI [] I I := eqI.rf
  have hER : eqR [30] R R := eqR.rf
  have hn := hF.1
  have hu9 := by2_lt f p0
  have hct := ct_in hfd
  refine ps_st (S' := (1, [(0, .ref m0), (1, .int 0), (2, .int t), (3, .int (nI p0)), (4, .int (nI e)), (5, .int (nI x)), (6, .int (nI s3))], [.int 0], M)) rfl rfl rfl ?_
  refine ps_st (S' := (56, [(0, .ref m0), (1, .int 0), (2, .int t), (3, .int (nI p0)), (4, .int (nI e)), (5, .int (nI x)), (6, .int (nI s3))], [], M)) rfl rfl rfl ?_
  refine ps_st (S' := (58, [(0, .ref m0), (1, .int 0), (2, .int t), (3, .int (nI p0)), (4, .int (nI e)), (5, .int (nI x)), (6, .int (nI s3))], [.int (nI e)], M)) rfl rfl rfl ?_
  refine ps_st (S' := (59, [(0, .ref m0), (1, .int 0), (2, .int t), (3, .int (nI p0)), (4, .int (nI e)), (5, .int (nI x)), (6, .int (nI s3))], [.int (nI p0), .int (nI e)], M)) rfl rfl rfl ?_
  refine ps_st (S' := (60, [(0, .ref m0), (1, .int 0), (2, .int t), (3, .int (nI p0)), (4, .int (nI e)), (5, .int (nI x)), (6, .int (nI s3))], [.int ((nI e) - (nI p0))], M)) rfl rfl rfl ?_
  rw [nI_sub1 (p := e) (k := p0) (x := (nI p0)) rfl (by omega) (by omega)]
  show pl _ _ _ (_, [(0, .ref m0), (1, .int 0), (2, .int t), (3, .int (nI p0)), (4, .int (nI e)), (5, .int (nI x)), (6, .int (nI s3))], [.int (nI (e - p0))], M) _
  refine ps_st (S' := (61, [(0, .ref m0), (1, .int 0), (2, .int t), (3, .int (nI p0)), (4, .int (nI e)), (5, .int (nI x)), (6, .int (nI s3))], [.int 2, .int (nI (e - p0))], M)) rfl rfl rfl ?_
  refine ps_if2 (S1 := (67, [(0, .ref m0), (1, .int 0), (2, .int t), (3, .int (nI p0)), (4, .int (nI e)), (5, .int (nI x)), (6, .int (nI s3))], [], M)) (S2 := (64, [(0, .ref m0), (1, .int 0), (2, .int t), (3, .int (nI p0)), (4, .int (nI e)), (5, .int (nI x)), (6, .int (nI s3))], [], M)) rfl rfl rfl (fun c_61 => ?_) (fun c_61 => ?_)
  · have c_61 : (nI (e - p0)) = 2 := of_decide_eq_true c_61
    have n_61 : e - p0 = 2 := (eq_nI (p := e - p0) (n := 2) (by omega) (by decide)).mp c_61
    refine ps_st (S' := (68, [(0, .ref m0), (1, .int 0), (2, .int t), (3, .int (nI p0)), (4, .int (nI e)), (5, .int (nI x)), (6, .int (nI s3))], [.ref m0], M)) rfl rfl rfl ?_
    refine pr_ref (j := 27) (S' := (71, [(0, .ref m0), (1, .int 0), (2, .int t), (3, .int (nI p0)), (4, .int (nI e)), (5, .int (nI x)), (6, .int (nI s3))], [.ref (q 27)], M)) rfl hR rfl rfl ?_
    refine ps_st (S' := (73, [(0, .ref m0), (1, .int 0), (2, .int t), (3, .int (nI p0)), (4, .int (nI e)), (5, .int (nI x)), (6, .int (nI s3))], [.int (nI x), .ref (q 27)], M)) rfl rfl rfl ?_
    refine pr_ld (a := 27) (j := x) (y := (nI fl)) (S' := (74, [(0, .ref m0), (1, .int 0), (2, .int t), (3, .int (nI p0)), (4, .int (nI e)), (5, .int (nI x)), (6, .int (nI s3))], [.int (nI fl)], M)) rfl hR rfl (by omega) (fun _ => hfl) rfl (fun i1_73 => ?_)
    refine ps_st (S' := (76, [(0, .ref m0), (1, .int 0), (2, .int t), (3, .int (nI p0)), (4, .int (nI e)), (5, .int (nI x)), (6, .int (nI s3))], [.int 8, .int (nI fl)], M)) rfl rfl rfl ?_
    refine ps_st (S' := (77, [(0, .ref m0), (1, .int 0), (2, .int t), (3, .int (nI p0)), (4, .int (nI e)), (5, .int (nI x)), (6, .int (nI s3))], [.int ((nI fl) &&& 8)], M)) rfl rfl rfl ?_
    rw [nI_an (p := fl) (k := 8) (x := 8) rfl]
    show pl _ _ _ (_, [(0, .ref m0), (1, .int 0), (2, .int t), (3, .int (nI p0)), (4, .int (nI e)), (5, .int (nI x)), (6, .int (nI s3))], [.int (nI (aN fl 8))], M) _
    refine ps_if (S1 := (82, [(0, .ref m0), (1, .int 0), (2, .int t), (3, .int (nI p0)), (4, .int (nI e)), (5, .int (nI x)), (6, .int (nI s3))], [], M)) (S2 := (80, [(0, .ref m0), (1, .int 0), (2, .int t), (3, .int (nI p0)), (4, .int (nI e)), (5, .int (nI x)), (6, .int (nI s3))], [], M)) rfl rfl rfl (fun c_77 => ?_) (fun c_77 => ?_)
    · have c_77 : ¬ (nI (aN fl 8)) = 0 := of_decide_eq_true c_77
      have n_77 : ¬ (aN fl 8 = 0) := fun h9 => c_77 ((eq_nI (p := aN fl 8) (n := 0) (Nat.lt_of_le_of_lt (an_le _ _) (by decide)) (by decide)).mpr h9)
      refine ps_st (S' := (83, [(0, .ref m0), (1, .int 0), (2, .int t), (3, .int (nI p0)), (4, .int (nI e)), (5, .int (nI x)), (6, .int (nI s3))], [.ref m0], M)) rfl rfl rfl ?_
      refine ps_st (S' := (84, [(0, .ref m0), (1, .int 0), (2, .int t), (3, .int (nI p0)), (4, .int (nI e)), (5, .int (nI x)), (6, .int (nI s3))], [.ref m0, .ref m0], M)) rfl rfl rfl ?_
      refine pr_ref (j := 29) (S' := (87, [(0, .ref m0), (1, .int 0), (2, .int t), (3, .int (nI p0)), (4, .int (nI e)), (5, .int (nI x)), (6, .int (nI s3))], [.ref (q 29), .ref m0], M)) rfl hR rfl rfl ?_
      refine ps_st (S' := (89, [(0, .ref m0), (1, .int 0), (2, .int t), (3, .int (nI p0)), (4, .int (nI e)), (5, .int (nI x)), (6, .int (nI s3))], [.int (nI x), .ref (q 29), .ref m0], M)) rfl rfl rfl ?_
      refine pr_ld (a := 29) (j := x) (y := (nI ds)) (S' := (90, [(0, .ref m0), (1, .int 0), (2, .int t), (3, .int (nI p0)), (4, .int (nI e)), (5, .int (nI x)), (6, .int (nI s3))], [.int (nI ds), .ref m0], M)) rfl hR rfl (by omega) (fun _ => hds) rfl (fun i1_89 => ?_)
      refine ps_st (S' := (91, [(0, .ref m0), (1, .int 0), (2, .int t), (3, .int (nI p0)), (4, .int (nI e)), (5, .int (nI x)), (6, .int (nI s3))], [.int 0, .int (nI ds), .ref m0], M)) rfl rfl rfl ?_
      refine pl_call (a := [.ref m0, .int (nI ds), .int 0]) (rest := []) rfl rfl rfl (rd_at (tx := tx) (cN := cN) (A := A) (s := ds) (l := l) (k := 0) hR hY (hdt) (by omega)) (fun v1 M2 q3 => ?_)
      obtain ⟨rfl, rfl⟩ := q3
      show pl _ _ _ (94, [(0, .ref m0), (1, .int 0), (2, .int t), (3, .int (nI p0)), (4, .int (nI e)), (5, .int (nI x)), (6, .int (nI s3))], [.int (nI (l.getD 0 0))], M) _
      have hc_91 := hY.ch hdt (k := 0) (by omega)
      refine ps_st (S' := (96, [(7, .int (nI (l.getD 0 0))), (0, .ref m0), (1, .int 0), (2, .int t), (3, .int (nI p0)), (4, .int (nI e)), (5, .int (nI x)), (6, .int (nI s3))], [], M)) rfl rfl rfl ?_
      refine ps_st (S' := (98, [(7, .int (nI (l.getD 0 0))), (0, .ref m0), (1, .int 0), (2, .int t), (3, .int (nI p0)), (4, .int (nI e)), (5, .int (nI x)), (6, .int (nI s3))], [.int (nI (l.getD 0 0))], M)) rfl rfl rfl ?_
      refine ps_st (S' := (100, [(7, .int (nI (l.getD 0 0))), (0, .ref m0), (1, .int 0), (2, .int t), (3, .int (nI p0)), (4, .int (nI e)), (5, .int (nI x)), (6, .int (nI s3))], [.int 74, .int (nI (l.getD 0 0))], M)) rfl rfl rfl ?_
      refine ps_if2 (S1 := (107, [(7, .int (nI (l.getD 0 0))), (0, .ref m0), (1, .int 0), (2, .int t), (3, .int (nI p0)), (4, .int (nI e)), (5, .int (nI x)), (6, .int (nI s3))], [], M)) (S2 := (103, [(7, .int (nI (l.getD 0 0))), (0, .ref m0), (1, .int 0), (2, .int t), (3, .int (nI p0)), (4, .int (nI e)), (5, .int (nI x)), (6, .int (nI s3))], [], M)) rfl rfl rfl (fun c_100 => ?_) (fun c_100 => ?_)
      · have c_100 : ¬ (nI (l.getD 0 0)) = 74 := of_decide_eq_true c_100
        have n_100 : ¬ (l.getD 0 0 = 74) := fun h9 => c_100 ((eq_nI (p := l.getD 0 0) (n := 74) (by omega) (by decide)).mpr h9)
        refine ps_st (S' := (109, [(7, .int (nI (l.getD 0 0))), (0, .ref m0), (1, .int 0), (2, .int t), (3, .int (nI p0)), (4, .int (nI e)), (5, .int (nI x)), (6, .int (nI s3))], [.int (nI (l.getD 0 0))], M)) rfl rfl rfl ?_
        refine ps_st (S' := (111, [(7, .int (nI (l.getD 0 0))), (0, .ref m0), (1, .int 0), (2, .int t), (3, .int (nI p0)), (4, .int (nI e)), (5, .int (nI x)), (6, .int (nI s3))], [.int 70, .int (nI (l.getD 0 0))], M)) rfl rfl rfl ?_
        refine ps_if2 (S1 := (118, [(7, .int (nI (l.getD 0 0))), (0, .ref m0), (1, .int 0), (2, .int t), (3, .int (nI p0)), (4, .int (nI e)), (5, .int (nI x)), (6, .int (nI s3))], [], M)) (S2 := (114, [(7, .int (nI (l.getD 0 0))), (0, .ref m0), (1, .int 0), (2, .int t), (3, .int (nI p0)), (4, .int (nI e)), (5, .int (nI x)), (6, .int (nI s3))], [], M)) rfl rfl rfl (fun c_111 => ?_) (fun c_111 => ?_)
        · have c_111 : ¬ (nI (l.getD 0 0)) = 70 := of_decide_eq_true c_111
          have n_111 : ¬ (l.getD 0 0 = 70) := fun h9 => c_111 ((eq_nI (p := l.getD 0 0) (n := 70) (by omega) (by decide)).mpr h9)
          refine ps_st (S' := (120, [(7, .int (nI (l.getD 0 0))), (0, .ref m0), (1, .int 0), (2, .int t), (3, .int (nI p0)), (4, .int (nI e)), (5, .int (nI x)), (6, .int (nI s3))], [.int (nI (l.getD 0 0))], M)) rfl rfl rfl ?_
          refine ps_st (S' := (122, [(7, .int (nI (l.getD 0 0))), (0, .ref m0), (1, .int 0), (2, .int t), (3, .int (nI p0)), (4, .int (nI e)), (5, .int (nI x)), (6, .int (nI s3))], [.int 68, .int (nI (l.getD 0 0))], M)) rfl rfl rfl ?_
          refine ps_if2 (S1 := (130, [(7, .int (nI (l.getD 0 0))), (0, .ref m0), (1, .int 0), (2, .int t), (3, .int (nI p0)), (4, .int (nI e)), (5, .int (nI x)), (6, .int (nI s3))], [], M)) (S2 := (125, [(7, .int (nI (l.getD 0 0))), (0, .ref m0), (1, .int 0), (2, .int t), (3, .int (nI p0)), (4, .int (nI e)), (5, .int (nI x)), (6, .int (nI s3))], [], M)) rfl rfl rfl (fun c_122 => ?_) (fun c_122 => ?_)
          · have c_122 : ¬ (nI (l.getD 0 0)) = 68 := of_decide_eq_true c_122
            have n_122 : ¬ (l.getD 0 0 = 68) := fun h9 => c_122 ((eq_nI (p := l.getD 0 0) (n := 68) (by omega) (by decide)).mpr h9)
            refine ps_st (S' := (132, [(7, .int (nI (l.getD 0 0))), (0, .ref m0), (1, .int 0), (2, .int t), (3, .int (nI p0)), (4, .int (nI e)), (5, .int (nI x)), (6, .int (nI s3))], [.int (nI (l.getD 0 0))], M)) rfl rfl rfl ?_
            refine ps_st (S' := (134, [(7, .int (nI (l.getD 0 0))), (0, .ref m0), (1, .int 0), (2, .int t), (3, .int (nI p0)), (4, .int (nI e)), (5, .int (nI x)), (6, .int (nI s3))], [.int 76, .int (nI (l.getD 0 0))], M)) rfl rfl rfl ?_
            refine ps_if2 (S1 := (163, [(7, .int (nI (l.getD 0 0))), (0, .ref m0), (1, .int 0), (2, .int t), (3, .int (nI p0)), (4, .int (nI e)), (5, .int (nI x)), (6, .int (nI s3))], [], M)) (S2 := (137, [(7, .int (nI (l.getD 0 0))), (0, .ref m0), (1, .int 0), (2, .int t), (3, .int (nI p0)), (4, .int (nI e)), (5, .int (nI x)), (6, .int (nI s3))], [], M)) rfl rfl rfl (fun c_134 => ?_) (fun c_134 => ?_)
            · have c_134 : ¬ (nI (l.getD 0 0)) = 76 := of_decide_eq_true c_134
              have n_134 : ¬ (l.getD 0 0 = 76) := fun h9 => c_134 ((eq_nI (p := l.getD 0 0) (n := 76) (by omega) (by decide)).mpr h9)
              refine ps_st (S' := (165, [(7, .int (nI (l.getD 0 0))), (0, .ref m0), (1, .int 0), (2, .int t), (3, .int (nI p0)), (4, .int (nI e)), (5, .int (nI x)), (6, .int (nI s3))], [.int (nI (l.getD 0 0))], M)) rfl rfl rfl ?_
              refine ps_st (S' := (167, [(7, .int (nI (l.getD 0 0))), (0, .ref m0), (1, .int 0), (2, .int t), (3, .int (nI p0)), (4, .int (nI e)), (5, .int (nI x)), (6, .int (nI s3))], [.int 91, .int (nI (l.getD 0 0))], M)) rfl rfl rfl ?_
              refine ps_if2 (S1 := (174, [(7, .int (nI (l.getD 0 0))), (0, .ref m0), (1, .int 0), (2, .int t), (3, .int (nI p0)), (4, .int (nI e)), (5, .int (nI x)), (6, .int (nI s3))], [], M)) (S2 := (170, [(7, .int (nI (l.getD 0 0))), (0, .ref m0), (1, .int 0), (2, .int t), (3, .int (nI p0)), (4, .int (nI e)), (5, .int (nI x)), (6, .int (nI s3))], [], M)) rfl rfl rfl (fun c_167 => ?_) (fun c_167 => ?_)
              · have c_167 : ¬ (nI (l.getD 0 0)) = 91 := of_decide_eq_true c_167
                have n_167 : ¬ (l.getD 0 0 = 91) := fun h9 => c_167 ((eq_nI (p := l.getD 0 0) (n := 91) (by omega) (by decide)).mpr h9)
                refine ps_st (S' := (175, [(0, .ref m0), (3, .int (nI p0)), (5, .int (nI x))], [.int 3], M)) rfl rfl rfl ?_
                refine ps_st (S' := (177, [(8, .int 3), (0, .ref m0), (3, .int (nI p0)), (5, .int (nI x))], [], M)) rfl rfl rfl ?_
                refine ps_st (S' := (178, [(8, .int 3), (0, .ref m0), (3, .int (nI p0)), (5, .int (nI x))], [.ref m0], M)) rfl rfl rfl ?_
                refine ps_st (S' := (179, [(8, .int 3), (0, .ref m0), (3, .int (nI p0)), (5, .int (nI x))], [.ref m0, .ref m0], M)) rfl rfl rfl ?_
                refine ps_st (S' := (180, [(8, .int 3), (0, .ref m0), (3, .int (nI p0)), (5, .int (nI x))], [.int (nI p0), .ref m0, .ref m0], M)) rfl rfl rfl ?_
                refine pl_call (a := [.ref m0, .int (nI p0)]) (rest := [.ref m0]) rfl rfl rfl (rd_u2 (n := n) (f := f) (p := p0) hR hF (by omega)) (fun v4 M5 q6 => ?_)
                obtain ⟨rfl, rfl⟩ := q6
                show pl _ _ _ (183, [(8, .int 3), (0, .ref m0), (3, .int (nI p0)), (5, .int (nI x))], [.int (nI (by2 f p0)), .ref m0], M) _
                have hu_180 := by2_lt f p0
                refine pl_call (a := [.ref m0, .int (nI (by2 f p0))]) (rest := []) rfl rfl rfl (rd_tag (n := n) (f := f) (tx := tx) (cN := cN) (A := A) (N := N) (mj := mj) (E := E) (k := (by2 f p0)) hR hi51 hi52 hi53 hF hY hP (hEP) (hN) (hmj) (by2_lt _ _)) (fun v7 M8 q9 => ?_)
                obtain ⟨rfl, rfl⟩ := q9
                show pl _ _ _ (186, [(8, .int 3), (0, .ref m0), (3, .int (nI p0)), (5, .int (nI x))], [.int (nI (tg f E (by2 f p0)))], M) _
                have htg_183 := tg_lt f E (by2 f p0)
                refine ps_st (S' := (188, [(8, .int 3), (0, .ref m0), (3, .int (nI p0)), (5, .int (nI x))], [.int 3, .int (nI (tg f E (by2 f p0)))], M)) rfl rfl rfl ?_
                refine ps_if2 (S1 := (194, [(8, .int 3), (0, .ref m0), (3, .int (nI p0)), (5, .int (nI x))], [], M)) (S2 := (191, [(8, .int 3), (0, .ref m0), (3, .int (nI p0)), (5, .int (nI x))], [], M)) rfl rfl rfl (fun c_188 => ?_) (fun c_188 => ?_)
                · have c_188 : (nI (tg f E (by2 f p0))) = 3 := of_decide_eq_true c_188
                  have n_188 : tg f E (by2 f p0) = 3 := (eq_nI (p := tg f E (by2 f p0)) (n := 3) (Nat.lt_trans (tg_lt _ _ _) (by decide)) (by decide)).mp c_188
                  refine ps_st (S' := (195, [(8, .int 3), (0, .ref m0), (3, .int (nI p0)), (5, .int (nI x))], [.ref m0], M)) rfl rfl rfl ?_
                  refine pr_ref (j := 30) (S' := (198, [(8, .int 3), (0, .ref m0), (3, .int (nI p0)), (5, .int (nI x))], [.ref (q 30)], M)) rfl hR rfl rfl ?_
                  refine ps_st (S' := (200, [(8, .int 3), (0, .ref m0), (3, .int (nI p0)), (5, .int (nI x))], [.int (nI x), .ref (q 30)], M)) rfl rfl rfl ?_
                  refine ps_st (S' := (201, [(8, .int 3), (0, .ref m0), (3, .int (nI p0)), (5, .int (nI x))], [.ref m0, .int (nI x), .ref (q 30)], M)) rfl rfl rfl ?_
                  refine ps_st (S' := (202, [(8, .int 3), (0, .ref m0), (3, .int (nI p0)), (5, .int (nI x))], [.int (nI p0), .ref m0, .int (nI x), .ref (q 30)], M)) rfl rfl rfl ?_
                  refine pl_call (a := [.ref m0, .int (nI p0)]) (rest := [.int (nI x), .ref (q 30)]) rfl rfl rfl (rd_u2 (n := n) (f := f) (p := p0) hR hF (by omega)) (fun v10 M11 q12 => ?_)
                  obtain ⟨rfl, rfl⟩ := q12
                  show pl _ _ _ (205, [(8, .int 3), (0, .ref m0), (3, .int (nI p0)), (5, .int (nI x))], [.int (nI (by2 f p0)), .int (nI x), .ref (q 30)], M) _
                  have hu_202 := by2_lt f p0
                  refine pr_st (a := 30) (j := x) rfl hR rfl (by omega) (fun M13 R14 i1_205 hR15 hS16 => ?_)
                  have hF_17 := hF.mono (fun _ _ => rfl) (rRx hS16 (by decide))
                  have hY_18 := hY.mono (fun _ _ => rfl) (rRx hS16 (by decide))
                  have hP_19 := hP.mono (fun _ _ => rfl) (rRx hS16 (by decide))
                  have hER20 := hER.st hS16 (by decide)
                  show pl _ _ _ (206, [(8, .int 3), (0, .ref m0), (3, .int (nI p0)), (5, .int (nI x))], [], M13) _
                  have hW_21 := FW.s30 (I' := I) hW hS16
                  refine ps_st (S' := (207, [(8, .int 3), (0, .ref m0), (3, .int (nI p0)), (5, .int (nI x))], [.int 0], M13)) rfl rfl rfl ?_
                  exact ps_ret rfl rfl (Or.inr (Or.inr ⟨I, R14, (fe_1 (by decide) (by omega)).trans (congrArg some (by omega)), Or.inr (((ct_ne hfd (by omega) (by omega)).trans (congrArg some (by rw [if_neg (by omega), if_neg (by omega), if_neg (by omega)]))).trans (congrArg some (by omega))), rfl, hR15, hEI, hER20, (by rw [if_neg (by omega)]; exact hW_21)⟩))
                · have c_188 : ¬ ((nI (tg f E (by2 f p0))) = 3) := of_decide_eq_false c_188
                  have n_188 : ¬ (tg f E (by2 f p0) = 3) := fun h9 => c_188 ((eq_nI (p := tg f E (by2 f p0)) (n := 3) (Nat.lt_trans (tg_lt _ _ _) (by decide)) (by decide)).mpr h9)
                  refine ps_st (S' := (193, [(8, .int 3), (0, .ref m0), (3, .int (nI p0)), (5, .int (nI x))], [.int 31], M)) rfl rfl rfl ?_
                  exact ps_ret rfl rfl (Or.inr (Or.inl ⟨I, R, (fe_1 (by decide) (by omega)).trans (congrArg some (by omega)), ⟨by omega, fun h9 => (by have h8 := ((ct_ne hfd (by omega) (by omega)).trans (congrArg some (by rw [if_neg (by omega), if_neg (by omega), if_neg (by omega)]))).symm.trans h9; have h7 := Option.some.inj h8; omega)⟩, rfl, hR, hEI, hER⟩))
              · have c_167 : ¬ (¬ (nI (l.getD 0 0)) = 91) := of_decide_eq_false c_167
                have n_167 : l.getD 0 0 = 91 := (eq_nI (p := l.getD 0 0) (n := 91) (by omega) (by decide)).mp (Decidable.not_not.mp c_167)
                refine ps_st (S' := (171, [(7, .int (nI (l.getD 0 0))), (0, .ref m0), (1, .int 0), (2, .int t), (3, .int (nI p0)), (4, .int (nI e)), (5, .int (nI x)), (6, .int (nI s3))], [.int (-1)], M)) rfl rfl rfl ?_
                refine ps_st (S' := (175, [(0, .ref m0), (3, .int (nI p0)), (5, .int (nI x))], [.int (-1)], M)) rfl rfl rfl ?_
                refine ps_st (S' := (177, [(8, .int (-1)), (0, .ref m0), (3, .int (nI p0)), (5, .int (nI x))], [], M)) rfl rfl rfl ?_
                refine ps_st (S' := (178, [(8, .int (-1)), (0, .ref m0), (3, .int (nI p0)), (5, .int (nI x))], [.ref m0], M)) rfl rfl rfl ?_
                refine ps_st (S' := (179, [(8, .int (-1)), (0, .ref m0), (3, .int (nI p0)), (5, .int (nI x))], [.ref m0, .ref m0], M)) rfl rfl rfl ?_
                refine ps_st (S' := (180, [(8, .int (-1)), (0, .ref m0), (3, .int (nI p0)), (5, .int (nI x))], [.int (nI p0), .ref m0, .ref m0], M)) rfl rfl rfl ?_
                refine pl_call (a := [.ref m0, .int (nI p0)]) (rest := [.ref m0]) rfl rfl rfl (rd_u2 (n := n) (f := f) (p := p0) hR hF (by omega)) (fun v22 M23 q24 => ?_)
                obtain ⟨rfl, rfl⟩ := q24
                show pl _ _ _ (183, [(8, .int (-1)), (0, .ref m0), (3, .int (nI p0)), (5, .int (nI x))], [.int (nI (by2 f p0)), .ref m0], M) _
                have hu_180 := by2_lt f p0
                refine pl_call (a := [.ref m0, .int (nI (by2 f p0))]) (rest := []) rfl rfl rfl (rd_tag (n := n) (f := f) (tx := tx) (cN := cN) (A := A) (N := N) (mj := mj) (E := E) (k := (by2 f p0)) hR hi51 hi52 hi53 hF hY hP (hEP) (hN) (hmj) (by2_lt _ _)) (fun v25 M26 q27 => ?_)
                obtain ⟨rfl, rfl⟩ := q27
                show pl _ _ _ (186, [(8, .int (-1)), (0, .ref m0), (3, .int (nI p0)), (5, .int (nI x))], [.int (nI (tg f E (by2 f p0)))], M) _
                have htg_183 := tg_lt f E (by2 f p0)
                refine ps_st (S' := (188, [(8, .int (-1)), (0, .ref m0), (3, .int (nI p0)), (5, .int (nI x))], [.int (-1), .int (nI (tg f E (by2 f p0)))], M)) rfl rfl rfl ?_
                refine ps_if2 (S1 := (194, [(8, .int (-1)), (0, .ref m0), (3, .int (nI p0)), (5, .int (nI x))], [], M)) (S2 := (191, [(8, .int (-1)), (0, .ref m0), (3, .int (nI p0)), (5, .int (nI x))], [], M)) rfl rfl rfl (fun c_188 => ?_) (fun c_188 => ?_)
                · exact absurd (of_decide_eq_true c_188) (fun h9 => m1_ne (Nat.lt_trans (tg_lt _ _ _) (by decide)) h9.symm)
                refine ps_st (S' := (193, [(8, .int (-1)), (0, .ref m0), (3, .int (nI p0)), (5, .int (nI x))], [.int 31], M)) rfl rfl rfl ?_
                exact ps_ret rfl rfl (Or.inr (Or.inl ⟨I, R, (fe_1 (by decide) (by omega)).trans (congrArg some (by omega)), ⟨by omega, fun h9 => (by have h8 := (ct_91 hfd (by omega)).symm.trans h9; cases h8)⟩, rfl, hR, hEI, hER⟩))
            · have c_134 : ¬ (¬ (nI (l.getD 0 0)) = 76) := of_decide_eq_false c_134
              have n_134 : l.getD 0 0 = 76 := (eq_nI (p := l.getD 0 0) (n := 76) (by omega) (by decide)).mp (Decidable.not_not.mp c_134)
              refine ps_st (S' := (138, [(7, .int (nI (l.getD 0 0))), (0, .ref m0), (1, .int 0), (2, .int t), (3, .int (nI p0)), (4, .int (nI e)), (5, .int (nI x)), (6, .int (nI s3))], [.ref m0], M)) rfl rfl rfl ?_
              refine ps_st (S' := (139, [(7, .int (nI (l.getD 0 0))), (0, .ref m0), (1, .int 0), (2, .int t), (3, .int (nI p0)), (4, .int (nI e)), (5, .int (nI x)), (6, .int (nI s3))], [.ref m0, .ref m0], M)) rfl rfl rfl ?_
              refine pr_ref (j := 29) (S' := (142, [(7, .int (nI (l.getD 0 0))), (0, .ref m0), (1, .int 0), (2, .int t), (3, .int (nI p0)), (4, .int (nI e)), (5, .int (nI x)), (6, .int (nI s3))], [.ref (q 29), .ref m0], M)) rfl hR rfl rfl ?_
              refine ps_st (S' := (144, [(7, .int (nI (l.getD 0 0))), (0, .ref m0), (1, .int 0), (2, .int t), (3, .int (nI p0)), (4, .int (nI e)), (5, .int (nI x)), (6, .int (nI s3))], [.int (nI x), .ref (q 29), .ref m0], M)) rfl rfl rfl ?_
              refine pr_ld (a := 29) (j := x) (y := (nI ds)) (S' := (145, [(7, .int (nI (l.getD 0 0))), (0, .ref m0), (1, .int 0), (2, .int t), (3, .int (nI p0)), (4, .int (nI e)), (5, .int (nI x)), (6, .int (nI s3))], [.int (nI ds), .ref m0], M)) rfl hR rfl (by omega) (fun _ => hds) rfl (fun i1_144 => ?_)
              refine ps_st (S' := (148, [(7, .int (nI (l.getD 0 0))), (0, .ref m0), (1, .int 0), (2, .int t), (3, .int (nI p0)), (4, .int (nI e)), (5, .int (nI x)), (6, .int (nI s3))], [.ref (g.2.1 28), .int (nI ds), .ref m0], M)) rfl rfl rfl ?_
              refine pl_call (a := [.ref m0, .int (nI ds), .ref (g.2.1 28)]) (rest := []) rfl rfl rfl (rd_is (tx := tx) (cN := cN) (A := A) (s := ds) (l := l) (lk := 28) hR hY (hdt) (⟨by decide, by decide⟩)) (fun v28 M29 q30 => ?_)
              obtain ⟨rfl, rfl⟩ := q30
              show pl _ _ _ (151, [(7, .int (nI (l.getD 0 0))), (0, .ref m0), (1, .int 0), (2, .int t), (3, .int (nI p0)), (4, .int (nI e)), (5, .int (nI x)), (6, .int (nI s3))], [.int (nI (eqN l (ltx 28)))], M) _
              refine ps_if (S1 := (159, [(7, .int (nI (l.getD 0 0))), (0, .ref m0), (1, .int 0), (2, .int t), (3, .int (nI p0)), (4, .int (nI e)), (5, .int (nI x)), (6, .int (nI s3))], [], M)) (S2 := (154, [(7, .int (nI (l.getD 0 0))), (0, .ref m0), (1, .int 0), (2, .int t), (3, .int (nI p0)), (4, .int (nI e)), (5, .int (nI x)), (6, .int (nI s3))], [], M)) rfl rfl rfl (fun c_151 => ?_) (fun c_151 => ?_)
              · have c_151 : (nI (eqN l (ltx 28))) = 0 := of_decide_eq_true c_151
                have n_151 : eqN l (ltx 28) = 0 := (eq_nI (p := eqN l (ltx 28)) (n := 0) (Nat.lt_trans (le1_eq _ _) (by decide)) (by decide)).mp c_151
                refine ps_st (S' := (160, [(7, .int (nI (l.getD 0 0))), (0, .ref m0), (1, .int 0), (2, .int t), (3, .int (nI p0)), (4, .int (nI e)), (5, .int (nI x)), (6, .int (nI s3))], [.int (-1)], M)) rfl rfl rfl ?_
                refine ps_st (S' := (175, [(0, .ref m0), (3, .int (nI p0)), (5, .int (nI x))], [.int (-1)], M)) rfl rfl rfl ?_
                refine ps_st (S' := (177, [(8, .int (-1)), (0, .ref m0), (3, .int (nI p0)), (5, .int (nI x))], [], M)) rfl rfl rfl ?_
                refine ps_st (S' := (178, [(8, .int (-1)), (0, .ref m0), (3, .int (nI p0)), (5, .int (nI x))], [.ref m0], M)) rfl rfl rfl ?_
                refine ps_st (S' := (179, [(8, .int (-1)), (0, .ref m0), (3, .int (nI p0)), (5, .int (nI x))], [.ref m0, .ref m0], M)) rfl rfl rfl ?_
                refine ps_st (S' := (180, [(8, .int (-1)), (0, .ref m0), (3, .int (nI p0)), (5, .int (nI x))], [.int (nI p0), .ref m0, .ref m0], M)) rfl rfl rfl ?_
                refine pl_call (a := [.ref m0, .int (nI p0)]) (rest := [.ref m0]) rfl rfl rfl (rd_u2 (n := n) (f := f) (p := p0) hR hF (by omega)) (fun v31 M32 q33 => ?_)
                obtain ⟨rfl, rfl⟩ := q33
                show pl _ _ _ (183, [(8, .int (-1)), (0, .ref m0), (3, .int (nI p0)), (5, .int (nI x))], [.int (nI (by2 f p0)), .ref m0], M) _
                have hu_180 := by2_lt f p0
                refine pl_call (a := [.ref m0, .int (nI (by2 f p0))]) (rest := []) rfl rfl rfl (rd_tag (n := n) (f := f) (tx := tx) (cN := cN) (A := A) (N := N) (mj := mj) (E := E) (k := (by2 f p0)) hR hi51 hi52 hi53 hF hY hP (hEP) (hN) (hmj) (by2_lt _ _)) (fun v34 M35 q36 => ?_)
                obtain ⟨rfl, rfl⟩ := q36
                show pl _ _ _ (186, [(8, .int (-1)), (0, .ref m0), (3, .int (nI p0)), (5, .int (nI x))], [.int (nI (tg f E (by2 f p0)))], M) _
                have htg_183 := tg_lt f E (by2 f p0)
                refine ps_st (S' := (188, [(8, .int (-1)), (0, .ref m0), (3, .int (nI p0)), (5, .int (nI x))], [.int (-1), .int (nI (tg f E (by2 f p0)))], M)) rfl rfl rfl ?_
                refine ps_if2 (S1 := (194, [(8, .int (-1)), (0, .ref m0), (3, .int (nI p0)), (5, .int (nI x))], [], M)) (S2 := (191, [(8, .int (-1)), (0, .ref m0), (3, .int (nI p0)), (5, .int (nI x))], [], M)) rfl rfl rfl (fun c_188 => ?_) (fun c_188 => ?_)
                · exact absurd (of_decide_eq_true c_188) (fun h9 => m1_ne (Nat.lt_trans (tg_lt _ _ _) (by decide)) h9.symm)
                refine ps_st (S' := (193, [(8, .int (-1)), (0, .ref m0), (3, .int (nI p0)), (5, .int (nI x))], [.int 31], M)) rfl rfl rfl ?_
                exact ps_ret rfl rfl (Or.inr (Or.inl ⟨I, R, (fe_1 (by decide) (by omega)).trans (congrArg some (by omega)), ⟨by omega, fun h9 => (by have h8 := ((ct_76 hfd (by omega)).trans (by rw [← lt_28, if_pos n_151])).symm.trans h9; cases h8)⟩, rfl, hR, hEI, hER⟩))
              · have c_151 : ¬ ((nI (eqN l (ltx 28))) = 0) := of_decide_eq_false c_151
                have n_151 : ¬ (eqN l (ltx 28) = 0) := fun h9 => c_151 ((eq_nI (p := eqN l (ltx 28)) (n := 0) (Nat.lt_trans (le1_eq _ _) (by decide)) (by decide)).mpr h9)
                refine ps_st (S' := (156, [(7, .int (nI (l.getD 0 0))), (0, .ref m0), (1, .int 0), (2, .int t), (3, .int (nI p0)), (4, .int (nI e)), (5, .int (nI x)), (6, .int (nI s3))], [.int 8], M)) rfl rfl rfl ?_
                refine ps_st (S' := (175, [(0, .ref m0), (3, .int (nI p0)), (5, .int (nI x))], [.int 8], M)) rfl rfl rfl ?_
                refine ps_st (S' := (177, [(8, .int 8), (0, .ref m0), (3, .int (nI p0)), (5, .int (nI x))], [], M)) rfl rfl rfl ?_
                refine ps_st (S' := (178, [(8, .int 8), (0, .ref m0), (3, .int (nI p0)), (5, .int (nI x))], [.ref m0], M)) rfl rfl rfl ?_
                refine ps_st (S' := (179, [(8, .int 8), (0, .ref m0), (3, .int (nI p0)), (5, .int (nI x))], [.ref m0, .ref m0], M)) rfl rfl rfl ?_
                refine ps_st (S' := (180, [(8, .int 8), (0, .ref m0), (3, .int (nI p0)), (5, .int (nI x))], [.int (nI p0), .ref m0, .ref m0], M)) rfl rfl rfl ?_
                refine pl_call (a := [.ref m0, .int (nI p0)]) (rest := [.ref m0]) rfl rfl rfl (rd_u2 (n := n) (f := f) (p := p0) hR hF (by omega)) (fun v37 M38 q39 => ?_)
                obtain ⟨rfl, rfl⟩ := q39
                show pl _ _ _ (183, [(8, .int 8), (0, .ref m0), (3, .int (nI p0)), (5, .int (nI x))], [.int (nI (by2 f p0)), .ref m0], M) _
                have hu_180 := by2_lt f p0
                refine pl_call (a := [.ref m0, .int (nI (by2 f p0))]) (rest := []) rfl rfl rfl (rd_tag (n := n) (f := f) (tx := tx) (cN := cN) (A := A) (N := N) (mj := mj) (E := E) (k := (by2 f p0)) hR hi51 hi52 hi53 hF hY hP (hEP) (hN) (hmj) (by2_lt _ _)) (fun v40 M41 q42 => ?_)
                obtain ⟨rfl, rfl⟩ := q42
                show pl _ _ _ (186, [(8, .int 8), (0, .ref m0), (3, .int (nI p0)), (5, .int (nI x))], [.int (nI (tg f E (by2 f p0)))], M) _
                have htg_183 := tg_lt f E (by2 f p0)
                refine ps_st (S' := (188, [(8, .int 8), (0, .ref m0), (3, .int (nI p0)), (5, .int (nI x))], [.int 8, .int (nI (tg f E (by2 f p0)))], M)) rfl rfl rfl ?_
                refine ps_if2 (S1 := (194, [(8, .int 8), (0, .ref m0), (3, .int (nI p0)), (5, .int (nI x))], [], M)) (S2 := (191, [(8, .int 8), (0, .ref m0), (3, .int (nI p0)), (5, .int (nI x))], [], M)) rfl rfl rfl (fun c_188 => ?_) (fun c_188 => ?_)
                · have c_188 : (nI (tg f E (by2 f p0))) = 8 := of_decide_eq_true c_188
                  have n_188 : tg f E (by2 f p0) = 8 := (eq_nI (p := tg f E (by2 f p0)) (n := 8) (Nat.lt_trans (tg_lt _ _ _) (by decide)) (by decide)).mp c_188
                  refine ps_st (S' := (195, [(8, .int 8), (0, .ref m0), (3, .int (nI p0)), (5, .int (nI x))], [.ref m0], M)) rfl rfl rfl ?_
                  refine pr_ref (j := 30) (S' := (198, [(8, .int 8), (0, .ref m0), (3, .int (nI p0)), (5, .int (nI x))], [.ref (q 30)], M)) rfl hR rfl rfl ?_
                  refine ps_st (S' := (200, [(8, .int 8), (0, .ref m0), (3, .int (nI p0)), (5, .int (nI x))], [.int (nI x), .ref (q 30)], M)) rfl rfl rfl ?_
                  refine ps_st (S' := (201, [(8, .int 8), (0, .ref m0), (3, .int (nI p0)), (5, .int (nI x))], [.ref m0, .int (nI x), .ref (q 30)], M)) rfl rfl rfl ?_
                  refine ps_st (S' := (202, [(8, .int 8), (0, .ref m0), (3, .int (nI p0)), (5, .int (nI x))], [.int (nI p0), .ref m0, .int (nI x), .ref (q 30)], M)) rfl rfl rfl ?_
                  refine pl_call (a := [.ref m0, .int (nI p0)]) (rest := [.int (nI x), .ref (q 30)]) rfl rfl rfl (rd_u2 (n := n) (f := f) (p := p0) hR hF (by omega)) (fun v43 M44 q45 => ?_)
                  obtain ⟨rfl, rfl⟩ := q45
                  show pl _ _ _ (205, [(8, .int 8), (0, .ref m0), (3, .int (nI p0)), (5, .int (nI x))], [.int (nI (by2 f p0)), .int (nI x), .ref (q 30)], M) _
                  have hu_202 := by2_lt f p0
                  refine pr_st (a := 30) (j := x) rfl hR rfl (by omega) (fun M46 R47 i1_205 hR48 hS49 => ?_)
                  have hF_50 := hF.mono (fun _ _ => rfl) (rRx hS49 (by decide))
                  have hY_51 := hY.mono (fun _ _ => rfl) (rRx hS49 (by decide))
                  have hP_52 := hP.mono (fun _ _ => rfl) (rRx hS49 (by decide))
                  have hER53 := hER.st hS49 (by decide)
                  show pl _ _ _ (206, [(8, .int 8), (0, .ref m0), (3, .int (nI p0)), (5, .int (nI x))], [], M46) _
                  have hW_54 := FW.s30 (I' := I) hW hS49
                  refine ps_st (S' := (207, [(8, .int 8), (0, .ref m0), (3, .int (nI p0)), (5, .int (nI x))], [.int 0], M46)) rfl rfl rfl ?_
                  exact ps_ret rfl rfl (Or.inr (Or.inr ⟨I, R47, (fe_1 (by decide) (by omega)).trans (congrArg some (by omega)), Or.inr (((ct_76 hfd (by omega)).trans (by rw [← lt_28, if_neg n_151])).trans (congrArg some (by omega))), rfl, hR48, hEI, hER53, (by rw [if_neg (by omega)]; exact hW_54)⟩))
                · have c_188 : ¬ ((nI (tg f E (by2 f p0))) = 8) := of_decide_eq_false c_188
                  have n_188 : ¬ (tg f E (by2 f p0) = 8) := fun h9 => c_188 ((eq_nI (p := tg f E (by2 f p0)) (n := 8) (Nat.lt_trans (tg_lt _ _ _) (by decide)) (by decide)).mpr h9)
                  refine ps_st (S' := (193, [(8, .int 8), (0, .ref m0), (3, .int (nI p0)), (5, .int (nI x))], [.int 31], M)) rfl rfl rfl ?_
                  exact ps_ret rfl rfl (Or.inr (Or.inl ⟨I, R, (fe_1 (by decide) (by omega)).trans (congrArg some (by omega)), ⟨by omega, fun h9 => (by have h8 := ((ct_76 hfd (by omega)).trans (by rw [← lt_28, if_neg n_151])).symm.trans h9; have h7 := Option.some.inj h8; omega)⟩, rfl, hR, hEI, hER⟩))
          · have c_122 : ¬ (¬ (nI (l.getD 0 0)) = 68) := of_decide_eq_false c_122
            have n_122 : l.getD 0 0 = 68 := (eq_nI (p := l.getD 0 0) (n := 68) (by omega) (by decide)).mp (Decidable.not_not.mp c_122)
            refine ps_st (S' := (127, [(7, .int (nI (l.getD 0 0))), (0, .ref m0), (1, .int 0), (2, .int t), (3, .int (nI p0)), (4, .int (nI e)), (5, .int (nI x)), (6, .int (nI s3))], [.int 6], M)) rfl rfl rfl ?_
            refine ps_st (S' := (175, [(0, .ref m0), (3, .int (nI p0)), (5, .int (nI x))], [.int 6], M)) rfl rfl rfl ?_
            refine ps_st (S' := (177, [(8, .int 6), (0, .ref m0), (3, .int (nI p0)), (5, .int (nI x))], [], M)) rfl rfl rfl ?_
            refine ps_st (S' := (178, [(8, .int 6), (0, .ref m0), (3, .int (nI p0)), (5, .int (nI x))], [.ref m0], M)) rfl rfl rfl ?_
            refine ps_st (S' := (179, [(8, .int 6), (0, .ref m0), (3, .int (nI p0)), (5, .int (nI x))], [.ref m0, .ref m0], M)) rfl rfl rfl ?_
            refine ps_st (S' := (180, [(8, .int 6), (0, .ref m0), (3, .int (nI p0)), (5, .int (nI x))], [.int (nI p0), .ref m0, .ref m0], M)) rfl rfl rfl ?_
            refine pl_call (a := [.ref m0, .int (nI p0)]) (rest := [.ref m0]) rfl rfl rfl (rd_u2 (n := n) (f := f) (p := p0) hR hF (by omega)) (fun v55 M56 q57 => ?_)
            obtain ⟨rfl, rfl⟩ := q57
            show pl _ _ _ (183, [(8, .int 6), (0, .ref m0), (3, .int (nI p0)), (5, .int (nI x))], [.int (nI (by2 f p0)), .ref m0], M) _
            have hu_180 := by2_lt f p0
            refine pl_call (a := [.ref m0, .int (nI (by2 f p0))]) (rest := []) rfl rfl rfl (rd_tag (n := n) (f := f) (tx := tx) (cN := cN) (A := A) (N := N) (mj := mj) (E := E) (k := (by2 f p0)) hR hi51 hi52 hi53 hF hY hP (hEP) (hN) (hmj) (by2_lt _ _)) (fun v58 M59 q60 => ?_)
            obtain ⟨rfl, rfl⟩ := q60
            show pl _ _ _ (186, [(8, .int 6), (0, .ref m0), (3, .int (nI p0)), (5, .int (nI x))], [.int (nI (tg f E (by2 f p0)))], M) _
            have htg_183 := tg_lt f E (by2 f p0)
            refine ps_st (S' := (188, [(8, .int 6), (0, .ref m0), (3, .int (nI p0)), (5, .int (nI x))], [.int 6, .int (nI (tg f E (by2 f p0)))], M)) rfl rfl rfl ?_
            refine ps_if2 (S1 := (194, [(8, .int 6), (0, .ref m0), (3, .int (nI p0)), (5, .int (nI x))], [], M)) (S2 := (191, [(8, .int 6), (0, .ref m0), (3, .int (nI p0)), (5, .int (nI x))], [], M)) rfl rfl rfl (fun c_188 => ?_) (fun c_188 => ?_)
            · have c_188 : (nI (tg f E (by2 f p0))) = 6 := of_decide_eq_true c_188
              have n_188 : tg f E (by2 f p0) = 6 := (eq_nI (p := tg f E (by2 f p0)) (n := 6) (Nat.lt_trans (tg_lt _ _ _) (by decide)) (by decide)).mp c_188
              refine ps_st (S' := (195, [(8, .int 6), (0, .ref m0), (3, .int (nI p0)), (5, .int (nI x))], [.ref m0], M)) rfl rfl rfl ?_
              refine pr_ref (j := 30) (S' := (198, [(8, .int 6), (0, .ref m0), (3, .int (nI p0)), (5, .int (nI x))], [.ref (q 30)], M)) rfl hR rfl rfl ?_
              refine ps_st (S' := (200, [(8, .int 6), (0, .ref m0), (3, .int (nI p0)), (5, .int (nI x))], [.int (nI x), .ref (q 30)], M)) rfl rfl rfl ?_
              refine ps_st (S' := (201, [(8, .int 6), (0, .ref m0), (3, .int (nI p0)), (5, .int (nI x))], [.ref m0, .int (nI x), .ref (q 30)], M)) rfl rfl rfl ?_
              refine ps_st (S' := (202, [(8, .int 6), (0, .ref m0), (3, .int (nI p0)), (5, .int (nI x))], [.int (nI p0), .ref m0, .int (nI x), .ref (q 30)], M)) rfl rfl rfl ?_
              refine pl_call (a := [.ref m0, .int (nI p0)]) (rest := [.int (nI x), .ref (q 30)]) rfl rfl rfl (rd_u2 (n := n) (f := f) (p := p0) hR hF (by omega)) (fun v61 M62 q63 => ?_)
              obtain ⟨rfl, rfl⟩ := q63
              show pl _ _ _ (205, [(8, .int 6), (0, .ref m0), (3, .int (nI p0)), (5, .int (nI x))], [.int (nI (by2 f p0)), .int (nI x), .ref (q 30)], M) _
              have hu_202 := by2_lt f p0
              refine pr_st (a := 30) (j := x) rfl hR rfl (by omega) (fun M64 R65 i1_205 hR66 hS67 => ?_)
              have hF_68 := hF.mono (fun _ _ => rfl) (rRx hS67 (by decide))
              have hY_69 := hY.mono (fun _ _ => rfl) (rRx hS67 (by decide))
              have hP_70 := hP.mono (fun _ _ => rfl) (rRx hS67 (by decide))
              have hER71 := hER.st hS67 (by decide)
              show pl _ _ _ (206, [(8, .int 6), (0, .ref m0), (3, .int (nI p0)), (5, .int (nI x))], [], M64) _
              have hW_72 := FW.s30 (I' := I) hW hS67
              refine ps_st (S' := (207, [(8, .int 6), (0, .ref m0), (3, .int (nI p0)), (5, .int (nI x))], [.int 0], M64)) rfl rfl rfl ?_
              exact ps_ret rfl rfl (Or.inr (Or.inr ⟨I, R65, (fe_1 (by decide) (by omega)).trans (congrArg some (by omega)), Or.inr (((ct_ne hfd (by omega) (by omega)).trans (congrArg some (by rw [if_neg (by omega), if_neg (by omega), if_pos (by omega)]))).trans (congrArg some (by omega))), rfl, hR66, hEI, hER71, (by rw [if_neg (by omega)]; exact hW_72)⟩))
            · have c_188 : ¬ ((nI (tg f E (by2 f p0))) = 6) := of_decide_eq_false c_188
              have n_188 : ¬ (tg f E (by2 f p0) = 6) := fun h9 => c_188 ((eq_nI (p := tg f E (by2 f p0)) (n := 6) (Nat.lt_trans (tg_lt _ _ _) (by decide)) (by decide)).mpr h9)
              refine ps_st (S' := (193, [(8, .int 6), (0, .ref m0), (3, .int (nI p0)), (5, .int (nI x))], [.int 31], M)) rfl rfl rfl ?_
              exact ps_ret rfl rfl (Or.inr (Or.inl ⟨I, R, (fe_1 (by decide) (by omega)).trans (congrArg some (by omega)), ⟨by omega, fun h9 => (by have h8 := ((ct_ne hfd (by omega) (by omega)).trans (congrArg some (by rw [if_neg (by omega), if_neg (by omega), if_pos (by omega)]))).symm.trans h9; have h7 := Option.some.inj h8; omega)⟩, rfl, hR, hEI, hER⟩))
        · have c_111 : ¬ (¬ (nI (l.getD 0 0)) = 70) := of_decide_eq_false c_111
          have n_111 : l.getD 0 0 = 70 := (eq_nI (p := l.getD 0 0) (n := 70) (by omega) (by decide)).mp (Decidable.not_not.mp c_111)
          refine ps_st (S' := (115, [(7, .int (nI (l.getD 0 0))), (0, .ref m0), (1, .int 0), (2, .int t), (3, .int (nI p0)), (4, .int (nI e)), (5, .int (nI x)), (6, .int (nI s3))], [.int 4], M)) rfl rfl rfl ?_
          refine ps_st (S' := (175, [(0, .ref m0), (3, .int (nI p0)), (5, .int (nI x))], [.int 4], M)) rfl rfl rfl ?_
          refine ps_st (S' := (177, [(8, .int 4), (0, .ref m0), (3, .int (nI p0)), (5, .int (nI x))], [], M)) rfl rfl rfl ?_
          refine ps_st (S' := (178, [(8, .int 4), (0, .ref m0), (3, .int (nI p0)), (5, .int (nI x))], [.ref m0], M)) rfl rfl rfl ?_
          refine ps_st (S' := (179, [(8, .int 4), (0, .ref m0), (3, .int (nI p0)), (5, .int (nI x))], [.ref m0, .ref m0], M)) rfl rfl rfl ?_
          refine ps_st (S' := (180, [(8, .int 4), (0, .ref m0), (3, .int (nI p0)), (5, .int (nI x))], [.int (nI p0), .ref m0, .ref m0], M)) rfl rfl rfl ?_
          refine pl_call (a := [.ref m0, .int (nI p0)]) (rest := [.ref m0]) rfl rfl rfl (rd_u2 (n := n) (f := f) (p := p0) hR hF (by omega)) (fun v73 M74 q75 => ?_)
          obtain ⟨rfl, rfl⟩ := q75
          show pl _ _ _ (183, [(8, .int 4), (0, .ref m0), (3, .int (nI p0)), (5, .int (nI x))], [.int (nI (by2 f p0)), .ref m0], M) _
          have hu_180 := by2_lt f p0
          refine pl_call (a := [.ref m0, .int (nI (by2 f p0))]) (rest := []) rfl rfl rfl (rd_tag (n := n) (f := f) (tx := tx) (cN := cN) (A := A) (N := N) (mj := mj) (E := E) (k := (by2 f p0)) hR hi51 hi52 hi53 hF hY hP (hEP) (hN) (hmj) (by2_lt _ _)) (fun v76 M77 q78 => ?_)
          obtain ⟨rfl, rfl⟩ := q78
          show pl _ _ _ (186, [(8, .int 4), (0, .ref m0), (3, .int (nI p0)), (5, .int (nI x))], [.int (nI (tg f E (by2 f p0)))], M) _
          have htg_183 := tg_lt f E (by2 f p0)
          refine ps_st (S' := (188, [(8, .int 4), (0, .ref m0), (3, .int (nI p0)), (5, .int (nI x))], [.int 4, .int (nI (tg f E (by2 f p0)))], M)) rfl rfl rfl ?_
          refine ps_if2 (S1 := (194, [(8, .int 4), (0, .ref m0), (3, .int (nI p0)), (5, .int (nI x))], [], M)) (S2 := (191, [(8, .int 4), (0, .ref m0), (3, .int (nI p0)), (5, .int (nI x))], [], M)) rfl rfl rfl (fun c_188 => ?_) (fun c_188 => ?_)
          · have c_188 : (nI (tg f E (by2 f p0))) = 4 := of_decide_eq_true c_188
            have n_188 : tg f E (by2 f p0) = 4 := (eq_nI (p := tg f E (by2 f p0)) (n := 4) (Nat.lt_trans (tg_lt _ _ _) (by decide)) (by decide)).mp c_188
            refine ps_st (S' := (195, [(8, .int 4), (0, .ref m0), (3, .int (nI p0)), (5, .int (nI x))], [.ref m0], M)) rfl rfl rfl ?_
            refine pr_ref (j := 30) (S' := (198, [(8, .int 4), (0, .ref m0), (3, .int (nI p0)), (5, .int (nI x))], [.ref (q 30)], M)) rfl hR rfl rfl ?_
            refine ps_st (S' := (200, [(8, .int 4), (0, .ref m0), (3, .int (nI p0)), (5, .int (nI x))], [.int (nI x), .ref (q 30)], M)) rfl rfl rfl ?_
            refine ps_st (S' := (201, [(8, .int 4), (0, .ref m0), (3, .int (nI p0)), (5, .int (nI x))], [.ref m0, .int (nI x), .ref (q 30)], M)) rfl rfl rfl ?_
            refine ps_st (S' := (202, [(8, .int 4), (0, .ref m0), (3, .int (nI p0)), (5, .int (nI x))], [.int (nI p0), .ref m0, .int (nI x), .ref (q 30)], M)) rfl rfl rfl ?_
            refine pl_call (a := [.ref m0, .int (nI p0)]) (rest := [.int (nI x), .ref (q 30)]) rfl rfl rfl (rd_u2 (n := n) (f := f) (p := p0) hR hF (by omega)) (fun v79 M80 q81 => ?_)
            obtain ⟨rfl, rfl⟩ := q81
            show pl _ _ _ (205, [(8, .int 4), (0, .ref m0), (3, .int (nI p0)), (5, .int (nI x))], [.int (nI (by2 f p0)), .int (nI x), .ref (q 30)], M) _
            have hu_202 := by2_lt f p0
            refine pr_st (a := 30) (j := x) rfl hR rfl (by omega) (fun M82 R83 i1_205 hR84 hS85 => ?_)
            have hF_86 := hF.mono (fun _ _ => rfl) (rRx hS85 (by decide))
            have hY_87 := hY.mono (fun _ _ => rfl) (rRx hS85 (by decide))
            have hP_88 := hP.mono (fun _ _ => rfl) (rRx hS85 (by decide))
            have hER89 := hER.st hS85 (by decide)
            show pl _ _ _ (206, [(8, .int 4), (0, .ref m0), (3, .int (nI p0)), (5, .int (nI x))], [], M82) _
            have hW_90 := FW.s30 (I' := I) hW hS85
            refine ps_st (S' := (207, [(8, .int 4), (0, .ref m0), (3, .int (nI p0)), (5, .int (nI x))], [.int 0], M82)) rfl rfl rfl ?_
            exact ps_ret rfl rfl (Or.inr (Or.inr ⟨I, R83, (fe_1 (by decide) (by omega)).trans (congrArg some (by omega)), Or.inr (((ct_ne hfd (by omega) (by omega)).trans (congrArg some (by rw [if_pos (by omega)]))).trans (congrArg some (by omega))), rfl, hR84, hEI, hER89, (by rw [if_neg (by omega)]; exact hW_90)⟩))
          · have c_188 : ¬ ((nI (tg f E (by2 f p0))) = 4) := of_decide_eq_false c_188
            have n_188 : ¬ (tg f E (by2 f p0) = 4) := fun h9 => c_188 ((eq_nI (p := tg f E (by2 f p0)) (n := 4) (Nat.lt_trans (tg_lt _ _ _) (by decide)) (by decide)).mpr h9)
            refine ps_st (S' := (193, [(8, .int 4), (0, .ref m0), (3, .int (nI p0)), (5, .int (nI x))], [.int 31], M)) rfl rfl rfl ?_
            exact ps_ret rfl rfl (Or.inr (Or.inl ⟨I, R, (fe_1 (by decide) (by omega)).trans (congrArg some (by omega)), ⟨by omega, fun h9 => (by have h8 := ((ct_ne hfd (by omega) (by omega)).trans (congrArg some (by rw [if_pos (by omega)]))).symm.trans h9; have h7 := Option.some.inj h8; omega)⟩, rfl, hR, hEI, hER⟩))
      · have c_100 : ¬ (¬ (nI (l.getD 0 0)) = 74) := of_decide_eq_false c_100
        have n_100 : l.getD 0 0 = 74 := (eq_nI (p := l.getD 0 0) (n := 74) (by omega) (by decide)).mp (Decidable.not_not.mp c_100)
        refine ps_st (S' := (104, [(7, .int (nI (l.getD 0 0))), (0, .ref m0), (1, .int 0), (2, .int t), (3, .int (nI p0)), (4, .int (nI e)), (5, .int (nI x)), (6, .int (nI s3))], [.int 5], M)) rfl rfl rfl ?_
        refine ps_st (S' := (175, [(0, .ref m0), (3, .int (nI p0)), (5, .int (nI x))], [.int 5], M)) rfl rfl rfl ?_
        refine ps_st (S' := (177, [(8, .int 5), (0, .ref m0), (3, .int (nI p0)), (5, .int (nI x))], [], M)) rfl rfl rfl ?_
        refine ps_st (S' := (178, [(8, .int 5), (0, .ref m0), (3, .int (nI p0)), (5, .int (nI x))], [.ref m0], M)) rfl rfl rfl ?_
        refine ps_st (S' := (179, [(8, .int 5), (0, .ref m0), (3, .int (nI p0)), (5, .int (nI x))], [.ref m0, .ref m0], M)) rfl rfl rfl ?_
        refine ps_st (S' := (180, [(8, .int 5), (0, .ref m0), (3, .int (nI p0)), (5, .int (nI x))], [.int (nI p0), .ref m0, .ref m0], M)) rfl rfl rfl ?_
        refine pl_call (a := [.ref m0, .int (nI p0)]) (rest := [.ref m0]) rfl rfl rfl (rd_u2 (n := n) (f := f) (p := p0) hR hF (by omega)) (fun v91 M92 q93 => ?_)
        obtain ⟨rfl, rfl⟩ := q93
        show pl _ _ _ (183, [(8, .int 5), (0, .ref m0), (3, .int (nI p0)), (5, .int (nI x))], [.int (nI (by2 f p0)), .ref m0], M) _
        have hu_180 := by2_lt f p0
        refine pl_call (a := [.ref m0, .int (nI (by2 f p0))]) (rest := []) rfl rfl rfl (rd_tag (n := n) (f := f) (tx := tx) (cN := cN) (A := A) (N := N) (mj := mj) (E := E) (k := (by2 f p0)) hR hi51 hi52 hi53 hF hY hP (hEP) (hN) (hmj) (by2_lt _ _)) (fun v94 M95 q96 => ?_)
        obtain ⟨rfl, rfl⟩ := q96
        show pl _ _ _ (186, [(8, .int 5), (0, .ref m0), (3, .int (nI p0)), (5, .int (nI x))], [.int (nI (tg f E (by2 f p0)))], M) _
        have htg_183 := tg_lt f E (by2 f p0)
        refine ps_st (S' := (188, [(8, .int 5), (0, .ref m0), (3, .int (nI p0)), (5, .int (nI x))], [.int 5, .int (nI (tg f E (by2 f p0)))], M)) rfl rfl rfl ?_
        refine ps_if2 (S1 := (194, [(8, .int 5), (0, .ref m0), (3, .int (nI p0)), (5, .int (nI x))], [], M)) (S2 := (191, [(8, .int 5), (0, .ref m0), (3, .int (nI p0)), (5, .int (nI x))], [], M)) rfl rfl rfl (fun c_188 => ?_) (fun c_188 => ?_)
        · have c_188 : (nI (tg f E (by2 f p0))) = 5 := of_decide_eq_true c_188
          have n_188 : tg f E (by2 f p0) = 5 := (eq_nI (p := tg f E (by2 f p0)) (n := 5) (Nat.lt_trans (tg_lt _ _ _) (by decide)) (by decide)).mp c_188
          refine ps_st (S' := (195, [(8, .int 5), (0, .ref m0), (3, .int (nI p0)), (5, .int (nI x))], [.ref m0], M)) rfl rfl rfl ?_
          refine pr_ref (j := 30) (S' := (198, [(8, .int 5), (0, .ref m0), (3, .int (nI p0)), (5, .int (nI x))], [.ref (q 30)], M)) rfl hR rfl rfl ?_
          refine ps_st (S' := (200, [(8, .int 5), (0, .ref m0), (3, .int (nI p0)), (5, .int (nI x))], [.int (nI x), .ref (q 30)], M)) rfl rfl rfl ?_
          refine ps_st (S' := (201, [(8, .int 5), (0, .ref m0), (3, .int (nI p0)), (5, .int (nI x))], [.ref m0, .int (nI x), .ref (q 30)], M)) rfl rfl rfl ?_
          refine ps_st (S' := (202, [(8, .int 5), (0, .ref m0), (3, .int (nI p0)), (5, .int (nI x))], [.int (nI p0), .ref m0, .int (nI x), .ref (q 30)], M)) rfl rfl rfl ?_
          refine pl_call (a := [.ref m0, .int (nI p0)]) (rest := [.int (nI x), .ref (q 30)]) rfl rfl rfl (rd_u2 (n := n) (f := f) (p := p0) hR hF (by omega)) (fun v97 M98 q99 => ?_)
          obtain ⟨rfl, rfl⟩ := q99
          show pl _ _ _ (205, [(8, .int 5), (0, .ref m0), (3, .int (nI p0)), (5, .int (nI x))], [.int (nI (by2 f p0)), .int (nI x), .ref (q 30)], M) _
          have hu_202 := by2_lt f p0
          refine pr_st (a := 30) (j := x) rfl hR rfl (by omega) (fun M100 R101 i1_205 hR102 hS103 => ?_)
          have hF_104 := hF.mono (fun _ _ => rfl) (rRx hS103 (by decide))
          have hY_105 := hY.mono (fun _ _ => rfl) (rRx hS103 (by decide))
          have hP_106 := hP.mono (fun _ _ => rfl) (rRx hS103 (by decide))
          have hER107 := hER.st hS103 (by decide)
          show pl _ _ _ (206, [(8, .int 5), (0, .ref m0), (3, .int (nI p0)), (5, .int (nI x))], [], M100) _
          have hW_108 := FW.s30 (I' := I) hW hS103
          refine ps_st (S' := (207, [(8, .int 5), (0, .ref m0), (3, .int (nI p0)), (5, .int (nI x))], [.int 0], M100)) rfl rfl rfl ?_
          exact ps_ret rfl rfl (Or.inr (Or.inr ⟨I, R101, (fe_1 (by decide) (by omega)).trans (congrArg some (by omega)), Or.inr (((ct_ne hfd (by omega) (by omega)).trans (congrArg some (by rw [if_neg (by omega), if_pos (by omega)]))).trans (congrArg some (by omega))), rfl, hR102, hEI, hER107, (by rw [if_neg (by omega)]; exact hW_108)⟩))
        · have c_188 : ¬ ((nI (tg f E (by2 f p0))) = 5) := of_decide_eq_false c_188
          have n_188 : ¬ (tg f E (by2 f p0) = 5) := fun h9 => c_188 ((eq_nI (p := tg f E (by2 f p0)) (n := 5) (Nat.lt_trans (tg_lt _ _ _) (by decide)) (by decide)).mpr h9)
          refine ps_st (S' := (193, [(8, .int 5), (0, .ref m0), (3, .int (nI p0)), (5, .int (nI x))], [.int 31], M)) rfl rfl rfl ?_
          exact ps_ret rfl rfl (Or.inr (Or.inl ⟨I, R, (fe_1 (by decide) (by omega)).trans (congrArg some (by omega)), ⟨by omega, fun h9 => (by have h8 := ((ct_ne hfd (by omega) (by omega)).trans (congrArg some (by rw [if_neg (by omega), if_pos (by omega)]))).symm.trans h9; have h7 := Option.some.inj h8; omega)⟩, rfl, hR, hEI, hER⟩))
    · have c_77 : ¬ (¬ (nI (aN fl 8)) = 0) := of_decide_eq_false c_77
      have n_77 : aN fl 8 = 0 := (eq_nI (p := aN fl 8) (n := 0) (Nat.lt_of_le_of_lt (an_le _ _) (by decide)) (by decide)).mp (Decidable.not_not.mp c_77)
      refine ps_st (S' := (81, [(0, .ref m0), (1, .int 0), (2, .int t), (3, .int (nI p0)), (4, .int (nI e)), (5, .int (nI x)), (6, .int (nI s3))], [.int 0], M)) rfl rfl rfl ?_
      exact ps_ret rfl rfl (Or.inr (Or.inr ⟨I, R, (fe_1 (by decide) (by omega)).trans (congrArg some (by omega)), Or.inl (by omega), rfl, hR, hEI, hER, (by rw [if_pos (by omega)]; exact hW)⟩))
  · have c_61 : ¬ ((nI (e - p0)) = 2) := of_decide_eq_false c_61
    have n_61 : ¬ (e - p0 = 2) := fun h9 => c_61 ((eq_nI (p := e - p0) (n := 2) (by omega) (by decide)).mpr h9)
    refine ps_st (S' := (66, [(0, .ref m0), (1, .int 0), (2, .int t), (3, .int (nI p0)), (4, .int (nI e)), (5, .int (nI x)), (6, .int (nI s3))], [.int 30], M)) rfl rfl rfl ?_
    exact ps_ret rfl rfl (Or.inl ⟨I, R, (fun h9 => (by have h7 := s_fe_in h9; have h8 := Option.some.inj ((fe_1 (by decide) (by omega)).symm.trans h9); omega)), rfl, hR, hEI, hER⟩)
set_option maxHeartbeats 4000000 in
theorem rd_checkAttributes17 {g : xe_G} {m0 : Nat} {q : Nat → Nat} {z : Nat × Nat} {I : rI} {R : rR} {M : mi_H} {n : Nat} {f : Nat → Int32} {tx : List (List Nat)} {cN : Nat} {A : Nat → Nat} {N mj : Nat} {E : List (Nat × Nat)} {p1 e x fl ds : Nat} {l : List Nat} {R0 : rR} (hR : RS g m0 q z I R M) (hi51 : I 51 = some 0) (hi52 : I 52 = some (nI N)) (hi53 : I 53 = some (nI mj)) (hF : FK n f I R) (hY : SYT tx cN A I R) (hP : RPV f n E tx N I R) (hK : KX I R) (hX : FX fl ds x I R) (hW : FW x (0, 0) R0 I R) (hEP : EP f n E) (hN : N < 65536) (hmj : mj < 65536) (hin : p1 + 2 ≤ e ∧ e ≤ n) (hat : s_atE f e (by2 f p1) (p1 + 2) = some e) (hx : x < 8300) (hdt : ds < tx.length ∧ tx.getD ds [] = l) (hfd : ¬ fldN l = 0) (hf6 : fl < 65536) : pt (mT g) 187 [.ref m0, .int (nI p1), .int 1, .int (nI x)] M (fun v M' => (∃ (e9 : Nat × Nat) (I' : rI) (R' : rR), (faS f n E fl l (by2 f p1) (p1 + 2) 0 = some e9) ∧ v = some (.int (-1)) ∧ RS g m0 q z I' R' M' ∧ eqI [47, 48] I I' ∧ eqR [30, 31] R R' ∧ I' 47 = some (nI e9.1) ∧ I' 48 = some (nI e9.2)) ∨ (∃ (K : Nat × Nat) (I' : rI) (R' : rR), (faS f n E fl l (by2 f p1) (p1 + 2) 0 = none) ∧ (faU f n E fl (by2 f p1) (p1 + 2) (0, 0) = K) ∧ v = some (.int (nI e)) ∧ RS g m0 q z I' R' M' ∧ eqI [47, 48] I I' ∧ eqR [30, 31] R R' ∧ FW x K R0 I' R')) := by
  refine pt_in (b := mb_187 g) rfl (fun kf => ?_)
  show pl (mT g) kf (mb_187 g).2 (0, [(0, .ref m0), (1, .int (nI p1)), (2, .int 1), (3, .int (nI x))], [], M) _
  have hEI : eqI [47, 48] I I := eqI.rf
  have hER : eqR [30, 31] R R := eqR.rf
  have hn := hF.1
  have LL : ∀ (kf : Nat), (∀ (i p s2 s3 : Nat) (K : Nat × Nat) (M1 : mi_H) (I1 : rI) (R1 : rR), (RS g m0 q z I1 R1 M1) → (eqI [47, 48] I I1) → (eqR [30, 31] R R1) → (I1 51 = some 0) → (I1 52 = some (nI N)) → (I1 53 = some (nI mj)) → (FK n f I1 R1) → (SYT tx cN A I1 R1) → (RPV f n E tx N I1 R1) → (KX I1 R1) → (FX fl ds x I1 R1) → (FW x K R0 I1 R1) → (i ≤ by2 f p1) → (s3 < 2048) → (sb s3 0 = sb s2 1) → (s_atE f e (by2 f p1 - i) p = some e) → (faS f n E fl l (by2 f p1 - i) p s2 = faS f n E fl l (by2 f p1) (p1 + 2) 0) → (faU f n E fl (by2 f p1 - i) p K = faU f n E fl (by2 f p1) (p1 + 2) (0, 0)) → (K.1 ≤ i) →  pl (mT g) kf (mb_187 g).2 (18, [(0, .ref m0), (2, .int 1), (3, .int (nI x)), (4, .int (nI (by2 f p1))), (5, .int (nI p)), (6, .int (nI s3)), (7, .int (nI i))], [], M1) (fun v M' => (∃ (e9 : Nat × Nat) (I' : rI) (R' : rR), (faS f n E fl l (by2 f p1) (p1 + 2) 0 = some e9) ∧ v = some (.int (-1)) ∧ RS g m0 q z I' R' M' ∧ eqI [47, 48] I I' ∧ eqR [30, 31] R R' ∧ I' 47 = some (nI e9.1) ∧ I' 48 = some (nI e9.2)) ∨ (∃ (K : Nat × Nat) (I' : rI) (R' : rR), (faS f n E fl l (by2 f p1) (p1 + 2) 0 = none) ∧ (faU f n E fl (by2 f p1) (p1 + 2) (0, 0) = K) ∧ v = some (.int (nI e)) ∧ RS g m0 q z I' R' M' ∧ eqI [47, 48] I I' ∧ eqR [30, 31] R R' ∧ FW x K R0 I' R'))) ∧ (∀ (i p s2 s3 k t : Nat) (K : Nat × Nat) (M1 : mi_H) (I1 : rI) (R1 : rR), (RS g m0 q z I1 R1 M1) → (eqI [47, 48] I I1) → (eqR [30, 31] R R1) → (I1 51 = some 0) → (I1 52 = some (nI N)) → (I1 53 = some (nI mj)) → (FK n f I1 R1) → (SYT tx cN A I1 R1) → (RPV f n E tx N I1 R1) → (KX I1 R1) → (FX fl ds x I1 R1) → (FW x K R0 I1 R1) → (i < by2 f p1) → (s3 < 2048) → (sb s3 0 = sb s2 1) → (s_atE f e (by2 f p1 - i) p = some e) → (faS f n E fl l (by2 f p1 - i) p s2 = faS f n E fl l (by2 f p1) (p1 + 2) 0) → (faU f n E fl (by2 f p1 - i) p K = faU f n E fl (by2 f p1) (p1 + 2) (0, 0)) → (K.1 ≤ i) → (k ≤ 10) → (tg f E (by2 f p) = 1) → (t < tx.length ∧ tx.getD t [] = tX f n E (by2 f p)) →  pl (mT g) kf (mb_187 g).2 (79, [(0, .ref m0), (2, .int 1), (3, .int (nI x)), (4, .int (nI (by2 f p1))), (5, .int (nI p)), (6, .int (nI s3)), (7, .int (nI i)), (8, .int (nI (by4 f (p + 2)))), (9, .int (nI t)), (10, .int (gI (kb mj 1 (tX f n E (by2 f p)) k))), (11, .int (nI k))], [], M1) (fun v M' => (∃ (e9 : Nat × Nat) (I' : rI) (R' : rR), (faS f n E fl l (by2 f p1) (p1 + 2) 0 = some e9) ∧ v = some (.int (-1)) ∧ RS g m0 q z I' R' M' ∧ eqI [47, 48] I I' ∧ eqR [30, 31] R R' ∧ I' 47 = some (nI e9.1) ∧ I' 48 = some (nI e9.2)) ∨ (∃ (K : Nat × Nat) (I' : rI) (R' : rR), (faS f n E fl l (by2 f p1) (p1 + 2) 0 = none) ∧ (faU f n E fl (by2 f p1) (p1 + 2) (0, 0) = K) ∧ v = some (.int (nI e)) ∧ RS g m0 q z I' R' M' ∧ eqI [47, 48] I I' ∧ eqR [30, 31] R R' ∧ FW x K R0 I' R'))) := by
    intro kf
    induction kf with
    | zero => exact ⟨by intros; exact pl_0, by intros; exact pl_0⟩
    | succ kf ih =>
      refine ⟨?_, ?_⟩
      · skip
        intro i p s2 s3 K M1 I1 R1 hR1 hEI1 hER1 hl51 hl52 hl53 hF1 hY1 hP1 hK1 hX1 hW1 hi hl hb ha hs9 hu hkn
        have hn := hF1.1
        have hu9 := by2_lt f p1
        have htl := hY1.1.2.2.1
        refine ps_st1 (S' := (20, [(0, .ref m0), (2, .int 1), (3, .int (nI x)), (4, .int (nI (by2 f p1))), (5, .int (nI p)), (6, .int (nI s3)), (7, .int (nI i))], [.int (nI i)], M1)) rfl rfl rfl ?_
        refine ps_st (S' := (22, [(0, .ref m0), (2, .int 1), (3, .int (nI x)), (4, .int (nI (by2 f p1))), (5, .int (nI p)), (6, .int (nI s3)), (7, .int (nI i))], [.int (nI (by2 f p1)), .int (nI i)], M1)) rfl rfl rfl ?_
        refine ps_if2 (S1 := (284, [(0, .ref m0), (2, .int 1), (3, .int (nI x)), (4, .int (nI (by2 f p1))), (5, .int (nI p)), (6, .int (nI s3)), (7, .int (nI i))], [], M1)) (S2 := (25, [(0, .ref m0), (2, .int 1), (3, .int (nI x)), (4, .int (nI (by2 f p1))), (5, .int (nI p)), (6, .int (nI s3)), (7, .int (nI i))], [], M1)) rfl rfl rfl (fun c_22 => ?_) (fun c_22 => ?_)
        · have c_22 : (nI (by2 f p1)) ≤ (nI i) := of_decide_eq_true c_22
          have n_22 : by2 f p1 ≤ i := (le_nI (p := by2 f p1) (n := i) (Nat.lt_trans (by2_lt _ _) (by decide)) (by omega)).mp c_22
          refine ps_st (S' := (286, [(0, .ref m0), (2, .int 1), (3, .int (nI x)), (4, .int (nI (by2 f p1))), (5, .int (nI p)), (6, .int (nI s3)), (7, .int (nI i))], [.int (nI p)], M1)) rfl rfl rfl ?_
          exact ps_reti rfl (Or.inr ⟨K, I1, R1, by rw [← hs9, show by2 f p1 - i = 0 by omega]; rfl, by rw [← hu, show by2 f p1 - i = 0 by omega]; rfl, by rw [show e = p by (rw [show by2 f p1 - i = 0 by omega] at ha; exact (Option.some.inj ha).symm)], hR1, hEI1, hER1, hW1⟩)
        · have c_22 : ¬ ((nI (by2 f p1)) ≤ (nI i)) := of_decide_eq_false c_22
          have n_22 : ¬ (by2 f p1 ≤ i) := fun h9 => c_22 ((le_nI (p := by2 f p1) (n := i) (Nat.lt_trans (by2_lt _ _) (by decide)) (by omega)).mpr h9)
          obtain ⟨hq5, hq6, hq7⟩ := s_atE_in (i := i) (p := p) ha (by omega)
          refine ps_st (S' := (26, [(0, .ref m0), (2, .int 1), (3, .int (nI x)), (4, .int (nI (by2 f p1))), (5, .int (nI p)), (6, .int (nI s3)), (7, .int (nI i))], [.ref m0], M1)) rfl rfl rfl ?_
          refine ps_st (S' := (28, [(0, .ref m0), (2, .int 1), (3, .int (nI x)), (4, .int (nI (by2 f p1))), (5, .int (nI p)), (6, .int (nI s3)), (7, .int (nI i))], [.int (nI p), .ref m0], M1)) rfl rfl rfl ?_
          refine ps_st (S' := (29, [(0, .ref m0), (2, .int 1), (3, .int (nI x)), (4, .int (nI (by2 f p1))), (5, .int (nI p)), (6, .int (nI s3)), (7, .int (nI i))], [.int 2, .int (nI p), .ref m0], M1)) rfl rfl rfl ?_
          refine ps_st (S' := (30, [(0, .ref m0), (2, .int 1), (3, .int (nI x)), (4, .int (nI (by2 f p1))), (5, .int (nI p)), (6, .int (nI s3)), (7, .int (nI i))], [.int ((nI p) + 2), .ref m0], M1)) rfl rfl rfl ?_
          rw [nI_add1 (p := p) (k := 2) (x := 2) rfl (by omega)]
          show pl _ _ _ (_, [(0, .ref m0), (2, .int 1), (3, .int (nI x)), (4, .int (nI (by2 f p1))), (5, .int (nI p)), (6, .int (nI s3)), (7, .int (nI i))], [.int (nI (p + 2)), .ref m0], M1) _
          refine pl_call (a := [.ref m0, .int (nI (p + 2))]) (rest := []) rfl rfl rfl (rd_u4 (n := n) (f := f) (p := (p + 2)) hR1 hF1 (by omega)) (fun v1 M2 q3 => ?_)
          obtain ⟨rfl, rfl⟩ := q3
          show pl _ _ _ (33, [(0, .ref m0), (2, .int 1), (3, .int (nI x)), (4, .int (nI (by2 f p1))), (5, .int (nI p)), (6, .int (nI s3)), (7, .int (nI i))], [.long (nL (by4 f (p + 2)))], M1) _
          have hu_30 := by4_lt f (p + 2)
          refine ps_st (S' := (34, [(0, .ref m0), (2, .int 1), (3, .int (nI x)), (4, .int (nI (by2 f p1))), (5, .int (nI p)), (6, .int (nI s3)), (7, .int (nI i))], [.int (Int64.toInt32 (nL (by4 f (p + 2))))], M1)) rfl rfl rfl ?_
          rw [l2i_nL (p := by4 f (p + 2)) (by omega)]
          show pl _ _ _ (_, [(0, .ref m0), (2, .int 1), (3, .int (nI x)), (4, .int (nI (by2 f p1))), (5, .int (nI p)), (6, .int (nI s3)), (7, .int (nI i))], [.int (nI (by4 f (p + 2)))], M1) _
          refine ps_st (S' := (36, [(8, .int (nI (by4 f (p + 2)))), (0, .ref m0), (2, .int 1), (3, .int (nI x)), (4, .int (nI (by2 f p1))), (5, .int (nI p)), (6, .int (nI s3)), (7, .int (nI i))], [], M1)) rfl rfl rfl ?_
          refine ps_st (S' := (37, [(8, .int (nI (by4 f (p + 2)))), (0, .ref m0), (2, .int 1), (3, .int (nI x)), (4, .int (nI (by2 f p1))), (5, .int (nI p)), (6, .int (nI s3)), (7, .int (nI i))], [.ref m0], M1)) rfl rfl rfl ?_
          refine ps_st (S' := (38, [(8, .int (nI (by4 f (p + 2)))), (0, .ref m0), (2, .int 1), (3, .int (nI x)), (4, .int (nI (by2 f p1))), (5, .int (nI p)), (6, .int (nI s3)), (7, .int (nI i))], [.ref m0, .ref m0], M1)) rfl rfl rfl ?_
          refine ps_st (S' := (40, [(8, .int (nI (by4 f (p + 2)))), (0, .ref m0), (2, .int 1), (3, .int (nI x)), (4, .int (nI (by2 f p1))), (5, .int (nI p)), (6, .int (nI s3)), (7, .int (nI i))], [.int (nI p), .ref m0, .ref m0], M1)) rfl rfl rfl ?_
          refine pl_call (a := [.ref m0, .int (nI p)]) (rest := [.ref m0]) rfl rfl rfl (rd_u2 (n := n) (f := f) (p := p) hR1 hF1 (by omega)) (fun v4 M5 q6 => ?_)
          obtain ⟨rfl, rfl⟩ := q6
          show pl _ _ _ (43, [(8, .int (nI (by4 f (p + 2)))), (0, .ref m0), (2, .int 1), (3, .int (nI x)), (4, .int (nI (by2 f p1))), (5, .int (nI p)), (6, .int (nI s3)), (7, .int (nI i))], [.int (nI (by2 f p)), .ref m0], M1) _
          have hu_40 := by2_lt f p
          refine pl_call (a := [.ref m0, .int (nI (by2 f p))]) (rest := []) rfl rfl rfl (rd_tag (n := n) (f := f) (tx := tx) (cN := cN) (A := A) (N := N) (mj := mj) (E := E) (k := (by2 f p)) hR1 hl51 hl52 hl53 hF1 hY1 hP1 (hEP) (hN) (hmj) (by2_lt _ _)) (fun v7 M8 q9 => ?_)
          obtain ⟨rfl, rfl⟩ := q9
          show pl _ _ _ (46, [(8, .int (nI (by4 f (p + 2)))), (0, .ref m0), (2, .int 1), (3, .int (nI x)), (4, .int (nI (by2 f p1))), (5, .int (nI p)), (6, .int (nI s3)), (7, .int (nI i))], [.int (nI (tg f E (by2 f p)))], M1) _
          have htg_43 := tg_lt f E (by2 f p)
          refine ps_st (S' := (47, [(8, .int (nI (by4 f (p + 2)))), (0, .ref m0), (2, .int 1), (3, .int (nI x)), (4, .int (nI (by2 f p1))), (5, .int (nI p)), (6, .int (nI s3)), (7, .int (nI i))], [.int 1, .int (nI (tg f E (by2 f p)))], M1)) rfl rfl rfl ?_
          refine ps_if2 (S1 := (61, [(8, .int (nI (by4 f (p + 2)))), (0, .ref m0), (2, .int 1), (3, .int (nI x)), (4, .int (nI (by2 f p1))), (5, .int (nI p)), (6, .int (nI s3)), (7, .int (nI i))], [], M1)) (S2 := (50, [(8, .int (nI (by4 f (p + 2)))), (0, .ref m0), (2, .int 1), (3, .int (nI x)), (4, .int (nI (by2 f p1))), (5, .int (nI p)), (6, .int (nI s3)), (7, .int (nI i))], [], M1)) rfl rfl rfl (fun c_47 => ?_) (fun c_47 => ?_)
          · have c_47 : (nI (tg f E (by2 f p))) = 1 := of_decide_eq_true c_47
            have n_47 : tg f E (by2 f p) = 1 := (eq_nI (p := tg f E (by2 f p)) (n := 1) (Nat.lt_trans (tg_lt _ _ _) (by decide)) (by decide)).mp c_47
            refine ps_st (S' := (62, [(8, .int (nI (by4 f (p + 2)))), (0, .ref m0), (2, .int 1), (3, .int (nI x)), (4, .int (nI (by2 f p1))), (5, .int (nI p)), (6, .int (nI s3)), (7, .int (nI i))], [.ref m0], M1)) rfl rfl rfl ?_
            refine ps_st (S' := (63, [(8, .int (nI (by4 f (p + 2)))), (0, .ref m0), (2, .int 1), (3, .int (nI x)), (4, .int (nI (by2 f p1))), (5, .int (nI p)), (6, .int (nI s3)), (7, .int (nI i))], [.ref m0, .ref m0], M1)) rfl rfl rfl ?_
            refine ps_st (S' := (65, [(8, .int (nI (by4 f (p + 2)))), (0, .ref m0), (2, .int 1), (3, .int (nI x)), (4, .int (nI (by2 f p1))), (5, .int (nI p)), (6, .int (nI s3)), (7, .int (nI i))], [.int (nI p), .ref m0, .ref m0], M1)) rfl rfl rfl ?_
            refine pl_call (a := [.ref m0, .int (nI p)]) (rest := [.ref m0]) rfl rfl rfl (rd_u2 (n := n) (f := f) (p := p) hR1 hF1 (by omega)) (fun v10 M11 q12 => ?_)
            obtain ⟨rfl, rfl⟩ := q12
            show pl _ _ _ (68, [(8, .int (nI (by4 f (p + 2)))), (0, .ref m0), (2, .int 1), (3, .int (nI x)), (4, .int (nI (by2 f p1))), (5, .int (nI p)), (6, .int (nI s3)), (7, .int (nI i))], [.int (nI (by2 f p)), .ref m0], M1) _
            have hu_65 := by2_lt f p
            refine pl_call (a := [.ref m0, .int (nI (by2 f p))]) (rest := []) rfl rfl rfl (rd_symOf (n := n) (f := f) (tx := tx) (cN := cN) (A := A) (N := N) (mj := mj) (E := E) (k := (by2 f p)) hR1 hl51 hl52 hl53 hF1 hY1 hP1 (hEP) (hN) (hmj) (by omega)) (fun v13 M14 q15 => ?_)
            obtain ⟨s16, q68_s, rfl, rfl⟩ := q15
            show pl _ _ _ (71, [(8, .int (nI (by4 f (p + 2)))), (0, .ref m0), (2, .int 1), (3, .int (nI x)), (4, .int (nI (by2 f p1))), (5, .int (nI p)), (6, .int (nI s3)), (7, .int (nI i))], [.int (nI s16)], M1) _
            have hsl_68 := q68_s.1
            have htl_68 := hY1.1.2.2.1
            refine ps_st (S' := (73, [(9, .int (nI s16)), (8, .int (nI (by4 f (p + 2)))), (0, .ref m0), (2, .int 1), (3, .int (nI x)), (4, .int (nI (by2 f p1))), (5, .int (nI p)), (6, .int (nI s3)), (7, .int (nI i))], [], M1)) rfl rfl rfl ?_
            refine ps_st (S' := (74, [(9, .int (nI s16)), (8, .int (nI (by4 f (p + 2)))), (0, .ref m0), (2, .int 1), (3, .int (nI x)), (4, .int (nI (by2 f p1))), (5, .int (nI p)), (6, .int (nI s3)), (7, .int (nI i))], [.int (-1)], M1)) rfl rfl rfl ?_
            refine ps_st (S' := (76, [(10, .int (-1)), (9, .int (nI s16)), (8, .int (nI (by4 f (p + 2)))), (0, .ref m0), (2, .int 1), (3, .int (nI x)), (4, .int (nI (by2 f p1))), (5, .int (nI p)), (6, .int (nI s3)), (7, .int (nI i))], [], M1)) rfl rfl rfl ?_
            refine ps_st (S' := (77, [(10, .int (-1)), (9, .int (nI s16)), (8, .int (nI (by4 f (p + 2)))), (0, .ref m0), (2, .int 1), (3, .int (nI x)), (4, .int (nI (by2 f p1))), (5, .int (nI p)), (6, .int (nI s3)), (7, .int (nI i))], [.int 0], M1)) rfl rfl rfl ?_
            refine ps_st (S' := (79, [(0, .ref m0), (2, .int 1), (3, .int (nI x)), (4, .int (nI (by2 f p1))), (5, .int (nI p)), (6, .int (nI s3)), (7, .int (nI i)), (8, .int (nI (by4 f (p + 2)))), (9, .int (nI s16)), (10, .int (-1)), (11, .int 0)], [], M1)) rfl rfl rfl ?_
            exact ih.2 (i) (p) (s2) (s3) (0) (s16) (K) M1 I1 R1 hR1 hEI1 hER1 hl51 hl52 hl53 hF1 hY1 hP1 hK1 hX1 hW1 (by omega) (hl) (hb) (ha) (hs9) (hu) (hkn) (by omega) (by omega) (q68_s)
          · have c_47 : ¬ ((nI (tg f E (by2 f p))) = 1) := of_decide_eq_false c_47
            have n_47 : ¬ (tg f E (by2 f p) = 1) := fun h9 => c_47 ((eq_nI (p := tg f E (by2 f p)) (n := 1) (Nat.lt_trans (tg_lt _ _ _) (by decide)) (by decide)).mpr h9)
            refine ps_st (S' := (51, [(8, .int (nI (by4 f (p + 2)))), (0, .ref m0), (2, .int 1), (3, .int (nI x)), (4, .int (nI (by2 f p1))), (5, .int (nI p)), (6, .int (nI s3)), (7, .int (nI i))], [.ref m0], M1)) rfl rfl rfl ?_
            refine ps_st (S' := (53, [(8, .int (nI (by4 f (p + 2)))), (0, .ref m0), (2, .int 1), (3, .int (nI x)), (4, .int (nI (by2 f p1))), (5, .int (nI p)), (6, .int (nI s3)), (7, .int (nI i))], [.int 28, .ref m0], M1)) rfl rfl rfl ?_
            refine ps_st (S' := (55, [(8, .int (nI (by4 f (p + 2)))), (0, .ref m0), (2, .int 1), (3, .int (nI x)), (4, .int (nI (by2 f p1))), (5, .int (nI p)), (6, .int (nI s3)), (7, .int (nI i))], [.int (nI p), .int 28, .ref m0], M1)) rfl rfl rfl ?_
            refine pl_call (a := [.ref m0, .int 28, .int (nI p)]) (rest := []) rfl rfl rfl (rd_wrong (x1 := 28) (x2 := (nI p)) hR1) (fun v17 M18 q19 => ?_)
            obtain ⟨I20, R21, rfl, hR22, hI23, hX24, hi25, hi26⟩ := q19
            have hi27 := (hI23 51 (by decide)).trans hl51
            have hi28 := (hI23 52 (by decide)).trans hl52
            have hi29 := (hI23 53 (by decide)).trans hl53
            have hF_30 := hF1.mono (cIx hI23 (by decide)) (cRx hX24 (by decide))
            have hY_31 := hY1.mono (cIx hI23 (by decide)) (cRx hX24 (by decide))
            have hP_32 := hP1.mono (cIx hI23 (by decide)) (cRx hX24 (by decide))
            have hK_33 := hK1.mono (cIx hI23 (by decide)) (cRx hX24 (by decide))
            have hX_34 := hX1.mono (cIx hI23 (by decide)) (cRx hX24 (by decide))
            have hW_35 := hW1.mono (cIx hI23 (by decide)) (cRx hX24 (by decide))
            have hEI36 := hEI1.tr hI23 (by decide)
            have hER37 := hER1.tr hX24 (by decide)
            show pl _ _ _ (58, [(8, .int (nI (by4 f (p + 2)))), (0, .ref m0), (2, .int 1), (3, .int (nI x)), (4, .int (nI (by2 f p1))), (5, .int (nI p)), (6, .int (nI s3)), (7, .int (nI i))], [.int 0], M18) _
            refine ps_st (S' := (59, [(8, .int (nI (by4 f (p + 2)))), (0, .ref m0), (2, .int 1), (3, .int (nI x)), (4, .int (nI (by2 f p1))), (5, .int (nI p)), (6, .int (nI s3)), (7, .int (nI i))], [], M18)) rfl rfl rfl ?_
            refine ps_st (S' := (60, [(8, .int (nI (by4 f (p + 2)))), (0, .ref m0), (2, .int 1), (3, .int (nI x)), (4, .int (nI (by2 f p1))), (5, .int (nI p)), (6, .int (nI s3)), (7, .int (nI i))], [.int (-1)], M18)) rfl rfl rfl ?_
            exact ps_ret rfl rfl (Or.inl ⟨(28, p), I20, R21, by
                rw [← hs9, faS_28 (i := i) (p := p) (s := s2) (by omega) (by omega)], rfl, hR22, hEI36, hER37, hi25, hi26⟩)
      · skip
        intro i p s2 s3 k t K M1 I1 R1 hR1 hEI1 hER1 hl51 hl52 hl53 hF1 hY1 hP1 hK1 hX1 hW1 hi0 hl hb ha hs9 hu hkn hk h1 hsy
        have hn := hF1.1
        have hu9 := by2_lt f p1
        have htl := hY1.1.2.2.1
        obtain ⟨hq5, hq6, hq7⟩ := s_atE_in (i := i) (p := p) ha hi0
        refine ps_st1 (S' := (81, [(0, .ref m0), (2, .int 1), (3, .int (nI x)), (4, .int (nI (by2 f p1))), (5, .int (nI p)), (6, .int (nI s3)), (7, .int (nI i)), (8, .int (nI (by4 f (p + 2)))), (9, .int (nI t)), (10, .int (gI (kb mj 1 (tX f n E (by2 f p)) k))), (11, .int (nI k))], [.int (nI k)], M1)) rfl rfl rfl ?_
        refine ps_st (S' := (82, [(0, .ref m0), (2, .int 1), (3, .int (nI x)), (4, .int (nI (by2 f p1))), (5, .int (nI p)), (6, .int (nI s3)), (7, .int (nI i)), (8, .int (nI (by4 f (p + 2)))), (9, .int (nI t)), (10, .int (gI (kb mj 1 (tX f n E (by2 f p)) k))), (11, .int (nI k))], [.ref m0, .int (nI k)], M1)) rfl rfl rfl ?_
        refine pr_ref (j := 62) (S' := (85, [(0, .ref m0), (2, .int 1), (3, .int (nI x)), (4, .int (nI (by2 f p1))), (5, .int (nI p)), (6, .int (nI s3)), (7, .int (nI i)), (8, .int (nI (by4 f (p + 2)))), (9, .int (nI t)), (10, .int (gI (kb mj 1 (tX f n E (by2 f p)) k))), (11, .int (nI k))], [.ref (q 62), .int (nI k)], M1)) rfl hR1 rfl rfl ?_
        refine pr_knl (S' := (86, [(0, .ref m0), (2, .int 1), (3, .int (nI x)), (4, .int (nI (by2 f p1))), (5, .int (nI p)), (6, .int (nI s3)), (7, .int (nI i)), (8, .int (nI (by4 f (p + 2)))), (9, .int (nI t)), (10, .int (gI (kb mj 1 (tX f n E (by2 f p)) k))), (11, .int (nI k))], [.int (nI 10), .int (nI k)], M1)) rfl hR1 rfl ?_
        refine ps_if2 (S1 := (140, [(0, .ref m0), (2, .int 1), (3, .int (nI x)), (4, .int (nI (by2 f p1))), (5, .int (nI p)), (6, .int (nI s3)), (7, .int (nI i)), (8, .int (nI (by4 f (p + 2)))), (9, .int (nI t)), (10, .int (gI (kb mj 1 (tX f n E (by2 f p)) k))), (11, .int (nI k))], [], M1)) (S2 := (89, [(0, .ref m0), (2, .int 1), (3, .int (nI x)), (4, .int (nI (by2 f p1))), (5, .int (nI p)), (6, .int (nI s3)), (7, .int (nI i)), (8, .int (nI (by4 f (p + 2)))), (9, .int (nI t)), (10, .int (gI (kb mj 1 (tX f n E (by2 f p)) k))), (11, .int (nI k))], [], M1)) rfl rfl rfl (fun c_86 => ?_) (fun c_86 => ?_)
        · have c_86 : (nI 10) ≤ (nI k) := of_decide_eq_true c_86
          have n_86 : 10 ≤ k := (le_nI (p := 10) (n := k) (by decide) (by omega)).mp c_86
          have ek : k = 10 := by omega
          have hkk := kb_1 (mj := mj) (l := tX f n E (by2 f p))
          refine ps_st (S' := (142, [(0, .ref m0), (2, .int 1), (3, .int (nI x)), (4, .int (nI (by2 f p1))), (5, .int (nI p)), (6, .int (nI s3)), (7, .int (nI i)), (8, .int (nI (by4 f (p + 2)))), (9, .int (nI t)), (10, .int (gI (kb mj 1 (tX f n E (by2 f p)) k))), (11, .int (nI k))], [.int (gI (kb mj 1 (tX f n E (by2 f p)) k))], M1)) rfl rfl rfl ?_
          refine ps_if (S1 := (268, [(0, .ref m0), (2, .int 1), (3, .int (nI x)), (4, .int (nI (by2 f p1))), (5, .int (nI p)), (6, .int (nI s3)), (7, .int (nI i)), (8, .int (nI (by4 f (p + 2))))], [], M1)) (S2 := (145, [(0, .ref m0), (2, .int 1), (3, .int (nI x)), (4, .int (nI (by2 f p1))), (5, .int (nI p)), (6, .int (nI s3)), (7, .int (nI i)), (8, .int (nI (by4 f (p + 2)))), (9, .int (nI t)), (10, .int (gI (kb mj 1 (tX f n E (by2 f p)) k))), (11, .int (nI k))], [], M1)) rfl rfl rfl (fun c_142 => ?_) (fun c_142 => ?_)
          · have c_142 : (gI (kb mj 1 (tX f n E (by2 f p)) k)) < 0 := of_decide_eq_true c_142
            have hc3 : ¬ (¬ eqN (tX f n E (by2 f p)) (ltx 15) = 0) := fun h9 => by
              rw [ek, hkk, if_pos h9] at c_142
              exact absurd c_142 (by decide)
            have hsm : fkN f n E (by2 f p) = 0 := by
              unfold fkN
              rw [← lt_15, if_pos (by omega)]
            refine ps_st (S' := (270, [(0, .ref m0), (2, .int 1), (3, .int (nI x)), (4, .int (nI (by2 f p1))), (5, .int (nI p)), (6, .int (nI s3)), (7, .int (nI i)), (8, .int (nI (by4 f (p + 2))))], [.int (nI p)], M1)) rfl rfl rfl ?_
            refine ps_st (S' := (272, [(0, .ref m0), (2, .int 1), (3, .int (nI x)), (4, .int (nI (by2 f p1))), (5, .int (nI p)), (6, .int (nI s3)), (7, .int (nI i)), (8, .int (nI (by4 f (p + 2))))], [.int 6, .int (nI p)], M1)) rfl rfl rfl ?_
            refine ps_st (S' := (274, [(0, .ref m0), (2, .int 1), (3, .int (nI x)), (4, .int (nI (by2 f p1))), (5, .int (nI p)), (6, .int (nI s3)), (7, .int (nI i)), (8, .int (nI (by4 f (p + 2))))], [.int (nI (by4 f (p + 2))), .int 6, .int (nI p)], M1)) rfl rfl rfl ?_
            refine ps_st (S' := (275, [(0, .ref m0), (2, .int 1), (3, .int (nI x)), (4, .int (nI (by2 f p1))), (5, .int (nI p)), (6, .int (nI s3)), (7, .int (nI i)), (8, .int (nI (by4 f (p + 2))))], [.int (6 + (nI (by4 f (p + 2)))), .int (nI p)], M1)) rfl rfl rfl ?_
            rw [nI_add2 (p := 6) (k := by4 f (p + 2)) (x := 6) (y := (nI (by4 f (p + 2)))) rfl rfl (by omega)]
            show pl _ _ _ (_, [(0, .ref m0), (2, .int 1), (3, .int (nI x)), (4, .int (nI (by2 f p1))), (5, .int (nI p)), (6, .int (nI s3)), (7, .int (nI i)), (8, .int (nI (by4 f (p + 2))))], [.int (nI (6 + by4 f (p + 2))), .int (nI p)], M1) _
            refine ps_st (S' := (276, [(0, .ref m0), (2, .int 1), (3, .int (nI x)), (4, .int (nI (by2 f p1))), (5, .int (nI p)), (6, .int (nI s3)), (7, .int (nI i)), (8, .int (nI (by4 f (p + 2))))], [.int ((nI p) + (nI (6 + by4 f (p + 2))))], M1)) rfl rfl rfl ?_
            rw [nI_add1 (p := p) (k := 6 + by4 f (p + 2)) (x := (nI (6 + by4 f (p + 2)))) rfl (by omega)]
            rw [show nI (p + (6 + by4 f (p + 2))) = nI (p + 6 + by4 f (p + 2)) from congrArg nI (by omega)]
            show pl _ _ _ (_, [(0, .ref m0), (2, .int 1), (3, .int (nI x)), (4, .int (nI (by2 f p1))), (5, .int (nI p)), (6, .int (nI s3)), (7, .int (nI i)), (8, .int (nI (by4 f (p + 2))))], [.int (nI (p + 6 + by4 f (p + 2)))], M1) _
            refine ps_st (S' := (278, [(5, .int (nI (p + 6 + by4 f (p + 2)))), (0, .ref m0), (2, .int 1), (3, .int (nI x)), (4, .int (nI (by2 f p1))), (6, .int (nI s3)), (7, .int (nI i)), (8, .int (nI (by4 f (p + 2))))], [], M1)) rfl rfl rfl ?_
            refine ps_st (S' := (281, [(7, .int ((nI i) + 1)), (5, .int (nI (p + 6 + by4 f (p + 2)))), (0, .ref m0), (2, .int 1), (3, .int (nI x)), (4, .int (nI (by2 f p1))), (6, .int (nI s3)), (8, .int (nI (by4 f (p + 2))))], [], M1)) rfl rfl rfl ?_
            rw [nI_add1 (p := i) (k := 1) (x := 1) rfl (by omega)]
            show pl _ _ _ (_, [(7, .int (nI (i + 1))), (5, .int (nI (p + 6 + by4 f (p + 2)))), (0, .ref m0), (2, .int 1), (3, .int (nI x)), (4, .int (nI (by2 f p1))), (6, .int (nI s3)), (8, .int (nI (by4 f (p + 2))))], [], M1) _
            refine ps_st (S' := (18, [(0, .ref m0), (2, .int 1), (3, .int (nI x)), (4, .int (nI (by2 f p1))), (5, .int (nI (p + 6 + by4 f (p + 2)))), (6, .int (nI s3)), (7, .int (nI (i + 1)))], [], M1)) rfl rfl rfl ?_
            exact ih.1 (i + 1) (p + 6 + by4 f (p + 2)) (s2) (s3) (K) M1 I1 R1 hR1 hEI1 hER1 hl51 hl52 hl53 hF1 hY1 hP1 hK1 hX1 hW1 (by omega) (hl) (hb) (hq7) (by
                rw [← hs9, faS_u (i := i) (p := p) (s := s2) hi0 h1 hsm]) (by
                rw [← hu, faU_st (i := i) (p := p) hi0, hsm, stF_0]) (by omega)
          · have c_142 : ¬ ((gI (kb mj 1 (tX f n E (by2 f p)) k)) < 0) := of_decide_eq_false c_142
            have hc3 : ¬ eqN (tX f n E (by2 f p)) (ltx 15) = 0 := by
              by_cases h9 : ¬ eqN (tX f n E (by2 f p)) (ltx 15) = 0
              · exact h9
              · rw [ek, hkk, if_neg h9] at c_142; exact absurd (by decide) c_142
            have hsm : fkN f n E (by2 f p) = 1 := by
              unfold fkN
              rw [← lt_15, if_neg hc3]
            rw [show gI (kb mj 1 (tX f n E (by2 f p)) k) = nI 0 by rw [ek, hkk, if_pos hc3]; rfl]
            have hs30 := sb_lt s3 0
            show pl _ _ _ (145, [(0, .ref m0), (2, .int 1), (3, .int (nI x)), (4, .int (nI (by2 f p1))), (5, .int (nI p)), (6, .int (nI s3)), (7, .int (nI i)), (8, .int (nI (by4 f (p + 2)))), (9, .int (nI t)), (10, .int (nI 0)), (11, .int (nI k))], [], M1) _
            refine ps_st (S' := (146, [(0, .ref m0), (2, .int 1), (3, .int (nI x)), (4, .int (nI (by2 f p1))), (5, .int (nI p)), (6, .int (nI s3)), (7, .int (nI i)), (8, .int (nI (by4 f (p + 2)))), (9, .int (nI t)), (10, .int (nI 0)), (11, .int (nI k))], [.int 1], M1)) rfl rfl rfl ?_
            refine ps_st (S' := (147, [(0, .ref m0), (2, .int 1), (3, .int (nI x)), (4, .int (nI (by2 f p1))), (5, .int (nI p)), (6, .int (nI s3)), (7, .int (nI i)), (8, .int (nI (by4 f (p + 2)))), (9, .int (nI t)), (10, .int (nI 0)), (11, .int (nI k))], [.int 1, .int 1], M1)) rfl rfl rfl ?_
            refine ps_if2 (S1 := (160, [(0, .ref m0), (2, .int 1), (3, .int (nI x)), (4, .int (nI (by2 f p1))), (5, .int (nI p)), (6, .int (nI s3)), (7, .int (nI i)), (8, .int (nI (by4 f (p + 2)))), (10, .int (nI 0))], [], M1)) (S2 := (150, [(0, .ref m0), (2, .int 1), (3, .int (nI x)), (4, .int (nI (by2 f p1))), (5, .int (nI p)), (6, .int (nI s3)), (7, .int (nI i)), (8, .int (nI (by4 f (p + 2)))), (9, .int (nI t)), (10, .int (nI 0)), (11, .int (nI k))], [], M1)) rfl rfl rfl (fun c_147 => ?_) (fun c_147 => ?_)
            · exact absurd (of_decide_eq_true c_147) (by decide)
            refine ps_st (S' := (151, [(0, .ref m0), (2, .int 1), (3, .int (nI x)), (4, .int (nI (by2 f p1))), (5, .int (nI p)), (6, .int (nI s3)), (7, .int (nI i)), (8, .int (nI (by4 f (p + 2)))), (9, .int (nI t)), (10, .int (nI 0)), (11, .int (nI k))], [.ref m0], M1)) rfl rfl rfl ?_
            refine pr_ref (j := 31) (S' := (154, [(0, .ref m0), (2, .int 1), (3, .int (nI x)), (4, .int (nI (by2 f p1))), (5, .int (nI p)), (6, .int (nI s3)), (7, .int (nI i)), (8, .int (nI (by4 f (p + 2)))), (9, .int (nI t)), (10, .int (nI 0)), (11, .int (nI k))], [.ref (q 31)], M1)) rfl hR1 rfl rfl ?_
            refine ps_st (S' := (155, [(0, .ref m0), (2, .int 1), (3, .int (nI x)), (4, .int (nI (by2 f p1))), (5, .int (nI p)), (6, .int (nI s3)), (7, .int (nI i)), (8, .int (nI (by4 f (p + 2)))), (9, .int (nI t)), (10, .int (nI 0)), (11, .int (nI k))], [.int (nI x), .ref (q 31)], M1)) rfl rfl rfl ?_
            refine ps_st (S' := (156, [(0, .ref m0), (2, .int 1), (3, .int (nI x)), (4, .int (nI (by2 f p1))), (5, .int (nI p)), (6, .int (nI s3)), (7, .int (nI i)), (8, .int (nI (by4 f (p + 2)))), (9, .int (nI t)), (10, .int (nI 0)), (11, .int (nI k))], [.int (nI x), .ref (q 31), .int (nI x), .ref (q 31)], M1)) rfl rfl rfl ?_
            refine pr_ld (a := 31) (j := x) (y := (nI K.1)) (S' := (157, [(0, .ref m0), (2, .int 1), (3, .int (nI x)), (4, .int (nI (by2 f p1))), (5, .int (nI p)), (6, .int (nI s3)), (7, .int (nI i)), (8, .int (nI (by4 f (p + 2)))), (9, .int (nI t)), (10, .int (nI 0)), (11, .int (nI k))], [.int (nI K.1), .int (nI x), .ref (q 31)], M1)) rfl hR1 rfl (by omega) (fun _ => hW1.2.1) rfl (fun i1_156 => ?_)
            refine ps_st (S' := (158, [(0, .ref m0), (2, .int 1), (3, .int (nI x)), (4, .int (nI (by2 f p1))), (5, .int (nI p)), (6, .int (nI s3)), (7, .int (nI i)), (8, .int (nI (by4 f (p + 2)))), (9, .int (nI t)), (10, .int (nI 0)), (11, .int (nI k))], [.int 1, .int (nI K.1), .int (nI x), .ref (q 31)], M1)) rfl rfl rfl ?_
            refine ps_st (S' := (159, [(0, .ref m0), (2, .int 1), (3, .int (nI x)), (4, .int (nI (by2 f p1))), (5, .int (nI p)), (6, .int (nI s3)), (7, .int (nI i)), (8, .int (nI (by4 f (p + 2)))), (9, .int (nI t)), (10, .int (nI 0)), (11, .int (nI k))], [.int ((nI K.1) + 1), .int (nI x), .ref (q 31)], M1)) rfl rfl rfl ?_
            rw [nI_add1 (p := K.1) (k := 1) (x := 1) rfl (by omega)]
            show pl _ _ _ (_, [(0, .ref m0), (2, .int 1), (3, .int (nI x)), (4, .int (nI (by2 f p1))), (5, .int (nI p)), (6, .int (nI s3)), (7, .int (nI i)), (8, .int (nI (by4 f (p + 2)))), (9, .int (nI t)), (10, .int (nI 0)), (11, .int (nI k))], [.int (nI (K.1 + 1)), .int (nI x), .ref (q 31)], M1) _
            refine pr_st (a := 31) (j := x) rfl hR1 rfl (by omega) (fun M38 R39 i1_159 hR40 hS41 => ?_)
            have hF_42 := hF1.mono (fun _ _ => rfl) (rRx hS41 (by decide))
            have hY_43 := hY1.mono (fun _ _ => rfl) (rRx hS41 (by decide))
            have hP_44 := hP1.mono (fun _ _ => rfl) (rRx hS41 (by decide))
            have hK_45 := hK1.mono (fun _ _ => rfl) (rRx hS41 (by decide))
            have hX_46 := hX1.mono (fun _ _ => rfl) (rRx hS41 (by decide))
            have hER47 := hER1.st hS41 (by decide)
            show pl _ _ _ (160, [(0, .ref m0), (2, .int 1), (3, .int (nI x)), (4, .int (nI (by2 f p1))), (5, .int (nI p)), (6, .int (nI s3)), (7, .int (nI i)), (8, .int (nI (by4 f (p + 2)))), (10, .int (nI 0))], [], M38) _
            have hW_48 := FW.s31 (I' := I1) hW1 hS41
            refine ps_st (S' := (161, [(0, .ref m0), (2, .int 1), (3, .int (nI x)), (4, .int (nI (by2 f p1))), (5, .int (nI p)), (6, .int (nI s3)), (7, .int (nI i)), (8, .int (nI (by4 f (p + 2)))), (10, .int (nI 0))], [.int 1], M38)) rfl rfl rfl ?_
            refine ps_st (S' := (162, [(0, .ref m0), (2, .int 1), (3, .int (nI x)), (4, .int (nI (by2 f p1))), (5, .int (nI p)), (6, .int (nI s3)), (7, .int (nI i)), (8, .int (nI (by4 f (p + 2)))), (10, .int (nI 0))], [.int 2, .int 1], M38)) rfl rfl rfl ?_
            refine ps_if2 (S1 := (175, [(0, .ref m0), (2, .int 1), (3, .int (nI x)), (4, .int (nI (by2 f p1))), (5, .int (nI p)), (6, .int (nI s3)), (7, .int (nI i)), (8, .int (nI (by4 f (p + 2)))), (10, .int (nI 0))], [], M38)) (S2 := (165, [(0, .ref m0), (2, .int 1), (3, .int (nI x)), (4, .int (nI (by2 f p1))), (5, .int (nI p)), (6, .int (nI s3)), (7, .int (nI i)), (8, .int (nI (by4 f (p + 2)))), (10, .int (nI 0))], [], M38)) rfl rfl rfl (fun c_162 => ?_) (fun c_162 => ?_)
            rotate_left
            · exact absurd (by decide) (of_decide_eq_false c_162)
            refine ps_st (S' := (176, [(0, .ref m0), (2, .int 1), (3, .int (nI x)), (4, .int (nI (by2 f p1))), (5, .int (nI p)), (6, .int (nI s3)), (7, .int (nI i)), (8, .int (nI (by4 f (p + 2)))), (10, .int (nI 0))], [.int 1], M38)) rfl rfl rfl ?_
            refine ps_st (S' := (177, [(0, .ref m0), (2, .int 1), (3, .int (nI x)), (4, .int (nI (by2 f p1))), (5, .int (nI p)), (6, .int (nI s3)), (7, .int (nI i)), (8, .int (nI (by4 f (p + 2)))), (10, .int (nI 0))], [.int 4, .int 1], M38)) rfl rfl rfl ?_
            refine ps_if2 (S1 := (190, [(0, .ref m0), (2, .int 1), (3, .int (nI x)), (4, .int (nI (by2 f p1))), (5, .int (nI p)), (6, .int (nI s3)), (7, .int (nI i)), (8, .int (nI (by4 f (p + 2)))), (10, .int (nI 0))], [], M38)) (S2 := (180, [(0, .ref m0), (2, .int 1), (3, .int (nI x)), (4, .int (nI (by2 f p1))), (5, .int (nI p)), (6, .int (nI s3)), (7, .int (nI i)), (8, .int (nI (by4 f (p + 2)))), (10, .int (nI 0))], [], M38)) rfl rfl rfl (fun c_177 => ?_) (fun c_177 => ?_)
            rotate_left
            · exact absurd (by decide) (of_decide_eq_false c_177)
            refine ps_st (S' := (192, [(0, .ref m0), (2, .int 1), (3, .int (nI x)), (4, .int (nI (by2 f p1))), (5, .int (nI p)), (6, .int (nI s3)), (7, .int (nI i)), (8, .int (nI (by4 f (p + 2)))), (10, .int (nI 0))], [.int (nI s3)], M38)) rfl rfl rfl ?_
            refine ps_st (S' := (194, [(0, .ref m0), (2, .int 1), (3, .int (nI x)), (4, .int (nI (by2 f p1))), (5, .int (nI p)), (6, .int (nI s3)), (7, .int (nI i)), (8, .int (nI (by4 f (p + 2)))), (10, .int (nI 0))], [.int (nI 0), .int (nI s3)], M38)) rfl rfl rfl ?_
            refine ps_st (S' := (195, [(0, .ref m0), (2, .int 1), (3, .int (nI x)), (4, .int (nI (by2 f p1))), (5, .int (nI p)), (6, .int (nI s3)), (7, .int (nI i)), (8, .int (nI (by4 f (p + 2)))), (10, .int (nI 0))], [.int ((nI s3) >>> ((nI 0) &&& 31))], M38)) rfl rfl rfl ?_
            refine ps_st (S' := (196, [(0, .ref m0), (2, .int 1), (3, .int (nI x)), (4, .int (nI (by2 f p1))), (5, .int (nI p)), (6, .int (nI s3)), (7, .int (nI i)), (8, .int (nI (by4 f (p + 2)))), (10, .int (nI 0))], [.int 1, .int ((nI s3) >>> ((nI 0) &&& 31))], M38)) rfl rfl rfl ?_
            refine ps_st (S' := (197, [(0, .ref m0), (2, .int 1), (3, .int (nI x)), (4, .int (nI (by2 f p1))), (5, .int (nI p)), (6, .int (nI s3)), (7, .int (nI i)), (8, .int (nI (by4 f (p + 2)))), (10, .int (nI 0))], [.int (((nI s3) >>> ((nI 0) &&& 31)) &&& 1)], M38)) rfl rfl rfl ?_
            rw [shr_k s3 (by omega) 0 (by omega)]
            show pl _ _ _ (_, [(0, .ref m0), (2, .int 1), (3, .int (nI x)), (4, .int (nI (by2 f p1))), (5, .int (nI p)), (6, .int (nI s3)), (7, .int (nI i)), (8, .int (nI (by4 f (p + 2)))), (10, .int (nI 0))], [.int (nI (sb s3 0))], M38) _
            refine ps_st (S' := (198, [(0, .ref m0), (2, .int 1), (3, .int (nI x)), (4, .int (nI (by2 f p1))), (5, .int (nI p)), (6, .int (nI s3)), (7, .int (nI i)), (8, .int (nI (by4 f (p + 2)))), (10, .int (nI 0))], [.int 1, .int (nI (sb s3 0))], M38)) rfl rfl rfl ?_
            refine ps_if2 (S1 := (212, [(0, .ref m0), (2, .int 1), (3, .int (nI x)), (4, .int (nI (by2 f p1))), (5, .int (nI p)), (6, .int (nI s3)), (7, .int (nI i)), (8, .int (nI (by4 f (p + 2)))), (10, .int (nI 0))], [], M38)) (S2 := (201, [(0, .ref m0), (2, .int 1), (3, .int (nI x)), (4, .int (nI (by2 f p1))), (5, .int (nI p)), (6, .int (nI s3)), (7, .int (nI i)), (8, .int (nI (by4 f (p + 2)))), (10, .int (nI 0))], [], M38)) rfl rfl rfl (fun c_198 => ?_) (fun c_198 => ?_)
            · have c_198 : ¬ (nI (sb s3 0)) = 1 := of_decide_eq_true c_198
              have n_198 : ¬ (sb s3 0 = 1) := fun h9 => c_198 ((eq_nI (p := sb s3 0) (n := 1) (Nat.lt_trans (sb_lt _ _) (by decide)) (by decide)).mpr h9)
              refine ps_st (S' := (213, [(0, .ref m0), (2, .int 1), (3, .int (nI x)), (4, .int (nI (by2 f p1))), (5, .int (nI p)), (6, .int (nI s3)), (7, .int (nI i)), (8, .int (nI (by4 f (p + 2)))), (10, .int (nI 0))], [.ref m0], M38)) rfl rfl rfl ?_
              refine ps_st (S' := (215, [(0, .ref m0), (2, .int 1), (3, .int (nI x)), (4, .int (nI (by2 f p1))), (5, .int (nI p)), (6, .int (nI s3)), (7, .int (nI i)), (8, .int (nI (by4 f (p + 2)))), (10, .int (nI 0))], [.int (nI 0), .ref m0], M38)) rfl rfl rfl ?_
              refine ps_st (S' := (217, [(0, .ref m0), (2, .int 1), (3, .int (nI x)), (4, .int (nI (by2 f p1))), (5, .int (nI p)), (6, .int (nI s3)), (7, .int (nI i)), (8, .int (nI (by4 f (p + 2)))), (10, .int (nI 0))], [.int (nI p), .int (nI 0), .ref m0], M38)) rfl rfl rfl ?_
              refine ps_st (S' := (219, [(0, .ref m0), (2, .int 1), (3, .int (nI x)), (4, .int (nI (by2 f p1))), (5, .int (nI p)), (6, .int (nI s3)), (7, .int (nI i)), (8, .int (nI (by4 f (p + 2)))), (10, .int (nI 0))], [.int (nI p), .int (nI p), .int (nI 0), .ref m0], M38)) rfl rfl rfl ?_
              refine ps_st (S' := (221, [(0, .ref m0), (2, .int 1), (3, .int (nI x)), (4, .int (nI (by2 f p1))), (5, .int (nI p)), (6, .int (nI s3)), (7, .int (nI i)), (8, .int (nI (by4 f (p + 2)))), (10, .int (nI 0))], [.int 6, .int (nI p), .int (nI p), .int (nI 0), .ref m0], M38)) rfl rfl rfl ?_
              refine ps_st (S' := (222, [(0, .ref m0), (2, .int 1), (3, .int (nI x)), (4, .int (nI (by2 f p1))), (5, .int (nI p)), (6, .int (nI s3)), (7, .int (nI i)), (8, .int (nI (by4 f (p + 2)))), (10, .int (nI 0))], [.int ((nI p) + 6), .int (nI p), .int (nI 0), .ref m0], M38)) rfl rfl rfl ?_
              rw [nI_add1 (p := p) (k := 6) (x := 6) rfl (by omega)]
              show pl _ _ _ (_, [(0, .ref m0), (2, .int 1), (3, .int (nI x)), (4, .int (nI (by2 f p1))), (5, .int (nI p)), (6, .int (nI s3)), (7, .int (nI i)), (8, .int (nI (by4 f (p + 2)))), (10, .int (nI 0))], [.int (nI (p + 6)), .int (nI p), .int (nI 0), .ref m0], M38) _
              refine ps_st (S' := (224, [(0, .ref m0), (2, .int 1), (3, .int (nI x)), (4, .int (nI (by2 f p1))), (5, .int (nI p)), (6, .int (nI s3)), (7, .int (nI i)), (8, .int (nI (by4 f (p + 2)))), (10, .int (nI 0))], [.int (nI p), .int (nI (p + 6)), .int (nI p), .int (nI 0), .ref m0], M38)) rfl rfl rfl ?_
              refine ps_st (S' := (226, [(0, .ref m0), (2, .int 1), (3, .int (nI x)), (4, .int (nI (by2 f p1))), (5, .int (nI p)), (6, .int (nI s3)), (7, .int (nI i)), (8, .int (nI (by4 f (p + 2)))), (10, .int (nI 0))], [.int 6, .int (nI p), .int (nI (p + 6)), .int (nI p), .int (nI 0), .ref m0], M38)) rfl rfl rfl ?_
              refine ps_st (S' := (227, [(0, .ref m0), (2, .int 1), (3, .int (nI x)), (4, .int (nI (by2 f p1))), (5, .int (nI p)), (6, .int (nI s3)), (7, .int (nI i)), (8, .int (nI (by4 f (p + 2)))), (10, .int (nI 0))], [.int ((nI p) + 6), .int (nI (p + 6)), .int (nI p), .int (nI 0), .ref m0], M38)) rfl rfl rfl ?_
              rw [nI_add1 (p := p) (k := 6) (x := 6) rfl (by omega)]
              show pl _ _ _ (_, [(0, .ref m0), (2, .int 1), (3, .int (nI x)), (4, .int (nI (by2 f p1))), (5, .int (nI p)), (6, .int (nI s3)), (7, .int (nI i)), (8, .int (nI (by4 f (p + 2)))), (10, .int (nI 0))], [.int (nI (p + 6)), .int (nI (p + 6)), .int (nI p), .int (nI 0), .ref m0], M38) _
              refine ps_st (S' := (229, [(0, .ref m0), (2, .int 1), (3, .int (nI x)), (4, .int (nI (by2 f p1))), (5, .int (nI p)), (6, .int (nI s3)), (7, .int (nI i)), (8, .int (nI (by4 f (p + 2)))), (10, .int (nI 0))], [.int (nI (by4 f (p + 2))), .int (nI (p + 6)), .int (nI (p + 6)), .int (nI p), .int (nI 0), .ref m0], M38)) rfl rfl rfl ?_
              refine ps_st (S' := (230, [(0, .ref m0), (2, .int 1), (3, .int (nI x)), (4, .int (nI (by2 f p1))), (5, .int (nI p)), (6, .int (nI s3)), (7, .int (nI i)), (8, .int (nI (by4 f (p + 2)))), (10, .int (nI 0))], [.int ((nI (p + 6)) + (nI (by4 f (p + 2)))), .int (nI (p + 6)), .int (nI p), .int (nI 0), .ref m0], M38)) rfl rfl rfl ?_
              rw [nI_add1 (p := p + 6) (k := by4 f (p + 2)) (x := (nI (by4 f (p + 2)))) rfl (by omega)]
              show pl _ _ _ (_, [(0, .ref m0), (2, .int 1), (3, .int (nI x)), (4, .int (nI (by2 f p1))), (5, .int (nI p)), (6, .int (nI s3)), (7, .int (nI i)), (8, .int (nI (by4 f (p + 2)))), (10, .int (nI 0))], [.int (nI (p + 6 + by4 f (p + 2))), .int (nI (p + 6)), .int (nI p), .int (nI 0), .ref m0], M38) _
              refine ps_st (S' := (231, [(0, .ref m0), (2, .int 1), (3, .int (nI x)), (4, .int (nI (by2 f p1))), (5, .int (nI p)), (6, .int (nI s3)), (7, .int (nI i)), (8, .int (nI (by4 f (p + 2)))), (10, .int (nI 0))], [.int (nI x), .int (nI (p + 6 + by4 f (p + 2))), .int (nI (p + 6)), .int (nI p), .int (nI 0), .ref m0], M38)) rfl rfl rfl ?_
              refine ps_st (S' := (233, [(0, .ref m0), (2, .int 1), (3, .int (nI x)), (4, .int (nI (by2 f p1))), (5, .int (nI p)), (6, .int (nI s3)), (7, .int (nI i)), (8, .int (nI (by4 f (p + 2)))), (10, .int (nI 0))], [.int (nI s3), .int (nI x), .int (nI (p + 6 + by4 f (p + 2))), .int (nI (p + 6)), .int (nI p), .int (nI 0), .ref m0], M38)) rfl rfl rfl ?_
              refine pl_call (a := [.ref m0, .int (nI 0), .int (nI p), .int (nI (p + 6)), .int (nI (p + 6 + by4 f (p + 2))), .int (nI x), .int (nI s3)]) (rest := []) rfl rfl rfl (rd_attr07 (n := n) (f := f) (tx := tx) (cN := cN) (A := A) (N := N) (mj := mj) (E := E) (p0 := (p + 6)) (e := (p + 6 + by4 f (p + 2))) (x := x) (s3 := s3) (t := (nI p)) (fl := fl) (ds := ds) (l := l) (K := (K.1 + 1, K.2)) (R0 := R0) hR40 hl51 hl52 hl53 hF_42 hY_43 hP_44 hW_48 (hEP) (hN) (hmj) (⟨by omega, by omega⟩) (hl) (hx) (hX_46.1) (hX_46.2) (hdt) (hfd) (hf6)) (fun v49 M50 q51 => ?_)
              rcases q51 with q51 | q51 | q51
              · skip
                obtain ⟨I52, R53, q233_s, rfl, hR54, hI55, hX56⟩ := q51
                have hi57 := (hI55 51 (by decide)).trans hl51
                have hi58 := (hI55 52 (by decide)).trans hl52
                have hi59 := (hI55 53 (by decide)).trans hl53
                have hF_60 := hF_42.mono (cIx hI55 (by decide)) (cRx hX56 (by decide))
                have hY_61 := hY_43.mono (cIx hI55 (by decide)) (cRx hX56 (by decide))
                have hP_62 := hP_44.mono (cIx hI55 (by decide)) (cRx hX56 (by decide))
                have hK_63 := hK_45.mono (cIx hI55 (by decide)) (cRx hX56 (by decide))
                have hX_64 := hX_46.mono (cIx hI55 (by decide)) (cRx hX56 (by decide))
                have hEI65 := hEI1.tr hI55 (by decide)
                have hER66 := hER47.tr hX56 (by decide)
                show pl _ _ _ (236, [(0, .ref m0), (2, .int 1), (3, .int (nI x)), (4, .int (nI (by2 f p1))), (5, .int (nI p)), (6, .int (nI s3)), (7, .int (nI i)), (8, .int (nI (by4 f (p + 2)))), (10, .int (nI 0))], [.int 30], M50) _
                refine ps_st (S' := (238, [(11, .int 30), (0, .ref m0), (2, .int 1), (3, .int (nI x)), (4, .int (nI (by2 f p1))), (5, .int (nI p)), (6, .int (nI s3)), (7, .int (nI i)), (8, .int (nI (by4 f (p + 2)))), (10, .int (nI 0))], [], M50)) rfl rfl rfl ?_
                refine ps_st (S' := (240, [(11, .int 30), (0, .ref m0), (2, .int 1), (3, .int (nI x)), (4, .int (nI (by2 f p1))), (5, .int (nI p)), (6, .int (nI s3)), (7, .int (nI i)), (8, .int (nI (by4 f (p + 2)))), (10, .int (nI 0))], [.int (nI s3)], M50)) rfl rfl rfl ?_
                refine ps_st (S' := (241, [(11, .int 30), (0, .ref m0), (2, .int 1), (3, .int (nI x)), (4, .int (nI (by2 f p1))), (5, .int (nI p)), (6, .int (nI s3)), (7, .int (nI i)), (8, .int (nI (by4 f (p + 2)))), (10, .int (nI 0))], [.int 1, .int (nI s3)], M50)) rfl rfl rfl ?_
                refine ps_st (S' := (243, [(11, .int 30), (0, .ref m0), (2, .int 1), (3, .int (nI x)), (4, .int (nI (by2 f p1))), (5, .int (nI p)), (6, .int (nI s3)), (7, .int (nI i)), (8, .int (nI (by4 f (p + 2)))), (10, .int (nI 0))], [.int (nI 0), .int 1, .int (nI s3)], M50)) rfl rfl rfl ?_
                refine ps_st (S' := (244, [(11, .int 30), (0, .ref m0), (2, .int 1), (3, .int (nI x)), (4, .int (nI (by2 f p1))), (5, .int (nI p)), (6, .int (nI s3)), (7, .int (nI i)), (8, .int (nI (by4 f (p + 2)))), (10, .int (nI 0))], [.int (1 <<< ((nI 0) &&& 31)), .int (nI s3)], M50)) rfl rfl rfl ?_
                refine ps_st (S' := (245, [(11, .int 30), (0, .ref m0), (2, .int 1), (3, .int (nI x)), (4, .int (nI (by2 f p1))), (5, .int (nI p)), (6, .int (nI s3)), (7, .int (nI i)), (8, .int (nI (by4 f (p + 2)))), (10, .int (nI 0))], [.int ((nI s3) ||| (1 <<< ((nI 0) &&& 31)))], M50)) rfl rfl rfl ?_
                rw [or_k s3 0 (by omega)]
                show pl _ _ _ (_, [(11, .int 30), (0, .ref m0), (2, .int 1), (3, .int (nI x)), (4, .int (nI (by2 f p1))), (5, .int (nI p)), (6, .int (nI s3)), (7, .int (nI i)), (8, .int (nI (by4 f (p + 2)))), (10, .int (nI 0))], [.int (nI (so s3 0))], M50) _
                refine ps_st (S' := (247, [(6, .int (nI (so s3 0))), (11, .int 30), (0, .ref m0), (2, .int 1), (3, .int (nI x)), (4, .int (nI (by2 f p1))), (5, .int (nI p)), (7, .int (nI i)), (8, .int (nI (by4 f (p + 2)))), (10, .int (nI 0))], [], M50)) rfl rfl rfl ?_
                refine ps_st (S' := (249, [(6, .int (nI (so s3 0))), (11, .int 30), (0, .ref m0), (2, .int 1), (3, .int (nI x)), (4, .int (nI (by2 f p1))), (5, .int (nI p)), (7, .int (nI i)), (8, .int (nI (by4 f (p + 2)))), (10, .int (nI 0))], [.int 30], M50)) rfl rfl rfl ?_
                refine ps_if (S1 := (261, [(0, .ref m0), (2, .int 1), (3, .int (nI x)), (4, .int (nI (by2 f p1))), (5, .int (nI p)), (6, .int (nI (so s3 0))), (7, .int (nI i)), (8, .int (nI (by4 f (p + 2)))), (11, .int 30)], [], M50)) (S2 := (252, [(6, .int (nI (so s3 0))), (11, .int 30), (0, .ref m0), (2, .int 1), (3, .int (nI x)), (4, .int (nI (by2 f p1))), (5, .int (nI p)), (7, .int (nI i)), (8, .int (nI (by4 f (p + 2)))), (10, .int (nI 0))], [], M50)) rfl rfl rfl (fun c_249 => ?_) (fun c_249 => ?_)
                · exact absurd (of_decide_eq_true c_249) (by decide)
                refine ps_st (S' := (253, [(6, .int (nI (so s3 0))), (11, .int 30), (0, .ref m0), (2, .int 1), (3, .int (nI x)), (4, .int (nI (by2 f p1))), (5, .int (nI p)), (7, .int (nI i)), (8, .int (nI (by4 f (p + 2)))), (10, .int (nI 0))], [.ref m0], M50)) rfl rfl rfl ?_
                refine ps_st (S' := (255, [(6, .int (nI (so s3 0))), (11, .int 30), (0, .ref m0), (2, .int 1), (3, .int (nI x)), (4, .int (nI (by2 f p1))), (5, .int (nI p)), (7, .int (nI i)), (8, .int (nI (by4 f (p + 2)))), (10, .int (nI 0))], [.int 30, .ref m0], M50)) rfl rfl rfl ?_
                refine ps_st (S' := (257, [(6, .int (nI (so s3 0))), (11, .int 30), (0, .ref m0), (2, .int 1), (3, .int (nI x)), (4, .int (nI (by2 f p1))), (5, .int (nI p)), (7, .int (nI i)), (8, .int (nI (by4 f (p + 2)))), (10, .int (nI 0))], [.int (nI p), .int 30, .ref m0], M50)) rfl rfl rfl ?_
                refine pl_call (a := [.ref m0, .int 30, .int (nI p)]) (rest := []) rfl rfl rfl (rd_wrong (x1 := 30) (x2 := (nI p)) hR54) (fun v67 M68 q69 => ?_)
                obtain ⟨I70, R71, rfl, hR72, hI73, hX74, hi75, hi76⟩ := q69
                have hi77 := (hI73 51 (by decide)).trans hi57
                have hi78 := (hI73 52 (by decide)).trans hi58
                have hi79 := (hI73 53 (by decide)).trans hi59
                have hF_80 := hF_60.mono (cIx hI73 (by decide)) (cRx hX74 (by decide))
                have hY_81 := hY_61.mono (cIx hI73 (by decide)) (cRx hX74 (by decide))
                have hP_82 := hP_62.mono (cIx hI73 (by decide)) (cRx hX74 (by decide))
                have hK_83 := hK_63.mono (cIx hI73 (by decide)) (cRx hX74 (by decide))
                have hX_84 := hX_64.mono (cIx hI73 (by decide)) (cRx hX74 (by decide))
                have hEI85 := hEI65.tr hI73 (by decide)
                have hER86 := hER66.tr hX74 (by decide)
                show pl _ _ _ (260, [(6, .int (nI (so s3 0))), (11, .int 30), (0, .ref m0), (2, .int 1), (3, .int (nI x)), (4, .int (nI (by2 f p1))), (5, .int (nI p)), (7, .int (nI i)), (8, .int (nI (by4 f (p + 2)))), (10, .int (nI 0))], [.int 0], M68) _
                refine ps_st (S' := (261, [(0, .ref m0), (2, .int 1), (3, .int (nI x)), (4, .int (nI (by2 f p1))), (5, .int (nI p)), (6, .int (nI (so s3 0))), (7, .int (nI i)), (8, .int (nI (by4 f (p + 2)))), (11, .int 30)], [], M68)) rfl rfl rfl ?_
                refine ps_st (S' := (263, [(0, .ref m0), (2, .int 1), (3, .int (nI x)), (4, .int (nI (by2 f p1))), (5, .int (nI p)), (6, .int (nI (so s3 0))), (7, .int (nI i)), (8, .int (nI (by4 f (p + 2)))), (11, .int 30)], [.int 30], M68)) rfl rfl rfl ?_
                refine ps_if (S1 := (268, [(0, .ref m0), (2, .int 1), (3, .int (nI x)), (4, .int (nI (by2 f p1))), (5, .int (nI p)), (6, .int (nI (so s3 0))), (7, .int (nI i)), (8, .int (nI (by4 f (p + 2))))], [], M68)) (S2 := (266, [(0, .ref m0), (2, .int 1), (3, .int (nI x)), (4, .int (nI (by2 f p1))), (5, .int (nI p)), (6, .int (nI (so s3 0))), (7, .int (nI i)), (8, .int (nI (by4 f (p + 2)))), (11, .int 30)], [], M68)) rfl rfl rfl (fun c_263 => ?_) (fun c_263 => ?_)
                · exact absurd (of_decide_eq_true c_263) (by decide)
                refine ps_st (S' := (267, [(0, .ref m0), (2, .int 1), (3, .int (nI x)), (4, .int (nI (by2 f p1))), (5, .int (nI p)), (6, .int (nI (so s3 0))), (7, .int (nI i)), (8, .int (nI (by4 f (p + 2)))), (11, .int 30)], [.int (-1)], M68)) rfl rfl rfl ?_
                exact ps_ret rfl rfl (Or.inl ⟨(30, p), I70, R71, by
                    rw [← hs9, faS_k (i := i) (p := p) (s := s2) hi0 h1 hsm (by omega), if_pos q233_s], rfl, hR72, hEI85, hER86, hi75, hi76⟩)
              · skip
                obtain ⟨I87, R88, q233_s, q233_b, rfl, hR89, hI90, hX91⟩ := q51
                have hi92 := (hI90 51 (by decide)).trans hl51
                have hi93 := (hI90 52 (by decide)).trans hl52
                have hi94 := (hI90 53 (by decide)).trans hl53
                have hF_95 := hF_42.mono (cIx hI90 (by decide)) (cRx hX91 (by decide))
                have hY_96 := hY_43.mono (cIx hI90 (by decide)) (cRx hX91 (by decide))
                have hP_97 := hP_44.mono (cIx hI90 (by decide)) (cRx hX91 (by decide))
                have hK_98 := hK_45.mono (cIx hI90 (by decide)) (cRx hX91 (by decide))
                have hX_99 := hX_46.mono (cIx hI90 (by decide)) (cRx hX91 (by decide))
                have hEI100 := hEI1.tr hI90 (by decide)
                have hER101 := hER47.tr hX91 (by decide)
                show pl _ _ _ (236, [(0, .ref m0), (2, .int 1), (3, .int (nI x)), (4, .int (nI (by2 f p1))), (5, .int (nI p)), (6, .int (nI s3)), (7, .int (nI i)), (8, .int (nI (by4 f (p + 2)))), (10, .int (nI 0))], [.int 31], M50) _
                refine ps_st (S' := (238, [(11, .int 31), (0, .ref m0), (2, .int 1), (3, .int (nI x)), (4, .int (nI (by2 f p1))), (5, .int (nI p)), (6, .int (nI s3)), (7, .int (nI i)), (8, .int (nI (by4 f (p + 2)))), (10, .int (nI 0))], [], M50)) rfl rfl rfl ?_
                refine ps_st (S' := (240, [(11, .int 31), (0, .ref m0), (2, .int 1), (3, .int (nI x)), (4, .int (nI (by2 f p1))), (5, .int (nI p)), (6, .int (nI s3)), (7, .int (nI i)), (8, .int (nI (by4 f (p + 2)))), (10, .int (nI 0))], [.int (nI s3)], M50)) rfl rfl rfl ?_
                refine ps_st (S' := (241, [(11, .int 31), (0, .ref m0), (2, .int 1), (3, .int (nI x)), (4, .int (nI (by2 f p1))), (5, .int (nI p)), (6, .int (nI s3)), (7, .int (nI i)), (8, .int (nI (by4 f (p + 2)))), (10, .int (nI 0))], [.int 1, .int (nI s3)], M50)) rfl rfl rfl ?_
                refine ps_st (S' := (243, [(11, .int 31), (0, .ref m0), (2, .int 1), (3, .int (nI x)), (4, .int (nI (by2 f p1))), (5, .int (nI p)), (6, .int (nI s3)), (7, .int (nI i)), (8, .int (nI (by4 f (p + 2)))), (10, .int (nI 0))], [.int (nI 0), .int 1, .int (nI s3)], M50)) rfl rfl rfl ?_
                refine ps_st (S' := (244, [(11, .int 31), (0, .ref m0), (2, .int 1), (3, .int (nI x)), (4, .int (nI (by2 f p1))), (5, .int (nI p)), (6, .int (nI s3)), (7, .int (nI i)), (8, .int (nI (by4 f (p + 2)))), (10, .int (nI 0))], [.int (1 <<< ((nI 0) &&& 31)), .int (nI s3)], M50)) rfl rfl rfl ?_
                refine ps_st (S' := (245, [(11, .int 31), (0, .ref m0), (2, .int 1), (3, .int (nI x)), (4, .int (nI (by2 f p1))), (5, .int (nI p)), (6, .int (nI s3)), (7, .int (nI i)), (8, .int (nI (by4 f (p + 2)))), (10, .int (nI 0))], [.int ((nI s3) ||| (1 <<< ((nI 0) &&& 31)))], M50)) rfl rfl rfl ?_
                rw [or_k s3 0 (by omega)]
                show pl _ _ _ (_, [(11, .int 31), (0, .ref m0), (2, .int 1), (3, .int (nI x)), (4, .int (nI (by2 f p1))), (5, .int (nI p)), (6, .int (nI s3)), (7, .int (nI i)), (8, .int (nI (by4 f (p + 2)))), (10, .int (nI 0))], [.int (nI (so s3 0))], M50) _
                refine ps_st (S' := (247, [(6, .int (nI (so s3 0))), (11, .int 31), (0, .ref m0), (2, .int 1), (3, .int (nI x)), (4, .int (nI (by2 f p1))), (5, .int (nI p)), (7, .int (nI i)), (8, .int (nI (by4 f (p + 2)))), (10, .int (nI 0))], [], M50)) rfl rfl rfl ?_
                refine ps_st (S' := (249, [(6, .int (nI (so s3 0))), (11, .int 31), (0, .ref m0), (2, .int 1), (3, .int (nI x)), (4, .int (nI (by2 f p1))), (5, .int (nI p)), (7, .int (nI i)), (8, .int (nI (by4 f (p + 2)))), (10, .int (nI 0))], [.int 31], M50)) rfl rfl rfl ?_
                refine ps_if (S1 := (261, [(0, .ref m0), (2, .int 1), (3, .int (nI x)), (4, .int (nI (by2 f p1))), (5, .int (nI p)), (6, .int (nI (so s3 0))), (7, .int (nI i)), (8, .int (nI (by4 f (p + 2)))), (11, .int 31)], [], M50)) (S2 := (252, [(6, .int (nI (so s3 0))), (11, .int 31), (0, .ref m0), (2, .int 1), (3, .int (nI x)), (4, .int (nI (by2 f p1))), (5, .int (nI p)), (7, .int (nI i)), (8, .int (nI (by4 f (p + 2)))), (10, .int (nI 0))], [], M50)) rfl rfl rfl (fun c_249 => ?_) (fun c_249 => ?_)
                · exact absurd (of_decide_eq_true c_249) (by decide)
                refine ps_st (S' := (253, [(6, .int (nI (so s3 0))), (11, .int 31), (0, .ref m0), (2, .int 1), (3, .int (nI x)), (4, .int (nI (by2 f p1))), (5, .int (nI p)), (7, .int (nI i)), (8, .int (nI (by4 f (p + 2)))), (10, .int (nI 0))], [.ref m0], M50)) rfl rfl rfl ?_
                refine ps_st (S' := (255, [(6, .int (nI (so s3 0))), (11, .int 31), (0, .ref m0), (2, .int 1), (3, .int (nI x)), (4, .int (nI (by2 f p1))), (5, .int (nI p)), (7, .int (nI i)), (8, .int (nI (by4 f (p + 2)))), (10, .int (nI 0))], [.int 31, .ref m0], M50)) rfl rfl rfl ?_
                refine ps_st (S' := (257, [(6, .int (nI (so s3 0))), (11, .int 31), (0, .ref m0), (2, .int 1), (3, .int (nI x)), (4, .int (nI (by2 f p1))), (5, .int (nI p)), (7, .int (nI i)), (8, .int (nI (by4 f (p + 2)))), (10, .int (nI 0))], [.int (nI p), .int 31, .ref m0], M50)) rfl rfl rfl ?_
                refine pl_call (a := [.ref m0, .int 31, .int (nI p)]) (rest := []) rfl rfl rfl (rd_wrong (x1 := 31) (x2 := (nI p)) hR89) (fun v102 M103 q104 => ?_)
                obtain ⟨I105, R106, rfl, hR107, hI108, hX109, hi110, hi111⟩ := q104
                have hi112 := (hI108 51 (by decide)).trans hi92
                have hi113 := (hI108 52 (by decide)).trans hi93
                have hi114 := (hI108 53 (by decide)).trans hi94
                have hF_115 := hF_95.mono (cIx hI108 (by decide)) (cRx hX109 (by decide))
                have hY_116 := hY_96.mono (cIx hI108 (by decide)) (cRx hX109 (by decide))
                have hP_117 := hP_97.mono (cIx hI108 (by decide)) (cRx hX109 (by decide))
                have hK_118 := hK_98.mono (cIx hI108 (by decide)) (cRx hX109 (by decide))
                have hX_119 := hX_99.mono (cIx hI108 (by decide)) (cRx hX109 (by decide))
                have hEI120 := hEI100.tr hI108 (by decide)
                have hER121 := hER101.tr hX109 (by decide)
                show pl _ _ _ (260, [(6, .int (nI (so s3 0))), (11, .int 31), (0, .ref m0), (2, .int 1), (3, .int (nI x)), (4, .int (nI (by2 f p1))), (5, .int (nI p)), (7, .int (nI i)), (8, .int (nI (by4 f (p + 2)))), (10, .int (nI 0))], [.int 0], M103) _
                refine ps_st (S' := (261, [(0, .ref m0), (2, .int 1), (3, .int (nI x)), (4, .int (nI (by2 f p1))), (5, .int (nI p)), (6, .int (nI (so s3 0))), (7, .int (nI i)), (8, .int (nI (by4 f (p + 2)))), (11, .int 31)], [], M103)) rfl rfl rfl ?_
                refine ps_st (S' := (263, [(0, .ref m0), (2, .int 1), (3, .int (nI x)), (4, .int (nI (by2 f p1))), (5, .int (nI p)), (6, .int (nI (so s3 0))), (7, .int (nI i)), (8, .int (nI (by4 f (p + 2)))), (11, .int 31)], [.int 31], M103)) rfl rfl rfl ?_
                refine ps_if (S1 := (268, [(0, .ref m0), (2, .int 1), (3, .int (nI x)), (4, .int (nI (by2 f p1))), (5, .int (nI p)), (6, .int (nI (so s3 0))), (7, .int (nI i)), (8, .int (nI (by4 f (p + 2))))], [], M103)) (S2 := (266, [(0, .ref m0), (2, .int 1), (3, .int (nI x)), (4, .int (nI (by2 f p1))), (5, .int (nI p)), (6, .int (nI (so s3 0))), (7, .int (nI i)), (8, .int (nI (by4 f (p + 2)))), (11, .int 31)], [], M103)) rfl rfl rfl (fun c_263 => ?_) (fun c_263 => ?_)
                · exact absurd (of_decide_eq_true c_263) (by decide)
                refine ps_st (S' := (267, [(0, .ref m0), (2, .int 1), (3, .int (nI x)), (4, .int (nI (by2 f p1))), (5, .int (nI p)), (6, .int (nI (so s3 0))), (7, .int (nI i)), (8, .int (nI (by4 f (p + 2)))), (11, .int 31)], [.int (-1)], M103)) rfl rfl rfl ?_
                exact ps_ret rfl rfl (Or.inl ⟨(31, p), I105, R106, by
                    rw [← hs9, faS_k (i := i) (p := p) (s := s2) hi0 h1 hsm (by omega), if_neg (fun h9 => h9 q233_s), if_pos ⟨fun h9 => q233_b.1 (has_9.mp h9), q233_b.2⟩], rfl, hR107, hEI120, hER121, hi110, hi111⟩)
              · skip
                obtain ⟨I122, R123, q233_s, q233_b, rfl, hR124, hI125, hX126, hW_127⟩ := q51
                have hi128 := (hI125 51 (by decide)).trans hl51
                have hi129 := (hI125 52 (by decide)).trans hl52
                have hi130 := (hI125 53 (by decide)).trans hl53
                have hF_131 := hF_42.mono (cIx hI125 (by decide)) (cRx hX126 (by decide))
                have hY_132 := hY_43.mono (cIx hI125 (by decide)) (cRx hX126 (by decide))
                have hP_133 := hP_44.mono (cIx hI125 (by decide)) (cRx hX126 (by decide))
                have hK_134 := hK_45.mono (cIx hI125 (by decide)) (cRx hX126 (by decide))
                have hX_135 := hX_46.mono (cIx hI125 (by decide)) (cRx hX126 (by decide))
                have hEI136 := hEI1.tr hI125 (by decide)
                have hER137 := hER47.tr hX126 (by decide)
                show pl _ _ _ (236, [(0, .ref m0), (2, .int 1), (3, .int (nI x)), (4, .int (nI (by2 f p1))), (5, .int (nI p)), (6, .int (nI s3)), (7, .int (nI i)), (8, .int (nI (by4 f (p + 2)))), (10, .int (nI 0))], [.int 0], M50) _
                refine ps_st (S' := (238, [(11, .int 0), (0, .ref m0), (2, .int 1), (3, .int (nI x)), (4, .int (nI (by2 f p1))), (5, .int (nI p)), (6, .int (nI s3)), (7, .int (nI i)), (8, .int (nI (by4 f (p + 2)))), (10, .int (nI 0))], [], M50)) rfl rfl rfl ?_
                refine ps_st (S' := (240, [(11, .int 0), (0, .ref m0), (2, .int 1), (3, .int (nI x)), (4, .int (nI (by2 f p1))), (5, .int (nI p)), (6, .int (nI s3)), (7, .int (nI i)), (8, .int (nI (by4 f (p + 2)))), (10, .int (nI 0))], [.int (nI s3)], M50)) rfl rfl rfl ?_
                refine ps_st (S' := (241, [(11, .int 0), (0, .ref m0), (2, .int 1), (3, .int (nI x)), (4, .int (nI (by2 f p1))), (5, .int (nI p)), (6, .int (nI s3)), (7, .int (nI i)), (8, .int (nI (by4 f (p + 2)))), (10, .int (nI 0))], [.int 1, .int (nI s3)], M50)) rfl rfl rfl ?_
                refine ps_st (S' := (243, [(11, .int 0), (0, .ref m0), (2, .int 1), (3, .int (nI x)), (4, .int (nI (by2 f p1))), (5, .int (nI p)), (6, .int (nI s3)), (7, .int (nI i)), (8, .int (nI (by4 f (p + 2)))), (10, .int (nI 0))], [.int (nI 0), .int 1, .int (nI s3)], M50)) rfl rfl rfl ?_
                refine ps_st (S' := (244, [(11, .int 0), (0, .ref m0), (2, .int 1), (3, .int (nI x)), (4, .int (nI (by2 f p1))), (5, .int (nI p)), (6, .int (nI s3)), (7, .int (nI i)), (8, .int (nI (by4 f (p + 2)))), (10, .int (nI 0))], [.int (1 <<< ((nI 0) &&& 31)), .int (nI s3)], M50)) rfl rfl rfl ?_
                refine ps_st (S' := (245, [(11, .int 0), (0, .ref m0), (2, .int 1), (3, .int (nI x)), (4, .int (nI (by2 f p1))), (5, .int (nI p)), (6, .int (nI s3)), (7, .int (nI i)), (8, .int (nI (by4 f (p + 2)))), (10, .int (nI 0))], [.int ((nI s3) ||| (1 <<< ((nI 0) &&& 31)))], M50)) rfl rfl rfl ?_
                rw [or_k s3 0 (by omega)]
                show pl _ _ _ (_, [(11, .int 0), (0, .ref m0), (2, .int 1), (3, .int (nI x)), (4, .int (nI (by2 f p1))), (5, .int (nI p)), (6, .int (nI s3)), (7, .int (nI i)), (8, .int (nI (by4 f (p + 2)))), (10, .int (nI 0))], [.int (nI (so s3 0))], M50) _
                refine ps_st (S' := (247, [(6, .int (nI (so s3 0))), (11, .int 0), (0, .ref m0), (2, .int 1), (3, .int (nI x)), (4, .int (nI (by2 f p1))), (5, .int (nI p)), (7, .int (nI i)), (8, .int (nI (by4 f (p + 2)))), (10, .int (nI 0))], [], M50)) rfl rfl rfl ?_
                refine ps_st (S' := (249, [(6, .int (nI (so s3 0))), (11, .int 0), (0, .ref m0), (2, .int 1), (3, .int (nI x)), (4, .int (nI (by2 f p1))), (5, .int (nI p)), (7, .int (nI i)), (8, .int (nI (by4 f (p + 2)))), (10, .int (nI 0))], [.int 0], M50)) rfl rfl rfl ?_
                refine ps_if (S1 := (261, [(0, .ref m0), (2, .int 1), (3, .int (nI x)), (4, .int (nI (by2 f p1))), (5, .int (nI p)), (6, .int (nI (so s3 0))), (7, .int (nI i)), (8, .int (nI (by4 f (p + 2)))), (11, .int 0)], [], M50)) (S2 := (252, [(6, .int (nI (so s3 0))), (11, .int 0), (0, .ref m0), (2, .int 1), (3, .int (nI x)), (4, .int (nI (by2 f p1))), (5, .int (nI p)), (7, .int (nI i)), (8, .int (nI (by4 f (p + 2)))), (10, .int (nI 0))], [], M50)) rfl rfl rfl (fun c_249 => ?_) (fun c_249 => ?_)
                rotate_left
                · exact absurd (by decide) (of_decide_eq_false c_249)
                refine ps_st (S' := (263, [(0, .ref m0), (2, .int 1), (3, .int (nI x)), (4, .int (nI (by2 f p1))), (5, .int (nI p)), (6, .int (nI (so s3 0))), (7, .int (nI i)), (8, .int (nI (by4 f (p + 2)))), (11, .int 0)], [.int 0], M50)) rfl rfl rfl ?_
                refine ps_if (S1 := (268, [(0, .ref m0), (2, .int 1), (3, .int (nI x)), (4, .int (nI (by2 f p1))), (5, .int (nI p)), (6, .int (nI (so s3 0))), (7, .int (nI i)), (8, .int (nI (by4 f (p + 2))))], [], M50)) (S2 := (266, [(0, .ref m0), (2, .int 1), (3, .int (nI x)), (4, .int (nI (by2 f p1))), (5, .int (nI p)), (6, .int (nI (so s3 0))), (7, .int (nI i)), (8, .int (nI (by4 f (p + 2)))), (11, .int 0)], [], M50)) rfl rfl rfl (fun c_263 => ?_) (fun c_263 => ?_)
                rotate_left
                · exact absurd (by decide) (of_decide_eq_false c_263)
                refine ps_st (S' := (270, [(0, .ref m0), (2, .int 1), (3, .int (nI x)), (4, .int (nI (by2 f p1))), (5, .int (nI p)), (6, .int (nI (so s3 0))), (7, .int (nI i)), (8, .int (nI (by4 f (p + 2))))], [.int (nI p)], M50)) rfl rfl rfl ?_
                refine ps_st (S' := (272, [(0, .ref m0), (2, .int 1), (3, .int (nI x)), (4, .int (nI (by2 f p1))), (5, .int (nI p)), (6, .int (nI (so s3 0))), (7, .int (nI i)), (8, .int (nI (by4 f (p + 2))))], [.int 6, .int (nI p)], M50)) rfl rfl rfl ?_
                refine ps_st (S' := (274, [(0, .ref m0), (2, .int 1), (3, .int (nI x)), (4, .int (nI (by2 f p1))), (5, .int (nI p)), (6, .int (nI (so s3 0))), (7, .int (nI i)), (8, .int (nI (by4 f (p + 2))))], [.int (nI (by4 f (p + 2))), .int 6, .int (nI p)], M50)) rfl rfl rfl ?_
                refine ps_st (S' := (275, [(0, .ref m0), (2, .int 1), (3, .int (nI x)), (4, .int (nI (by2 f p1))), (5, .int (nI p)), (6, .int (nI (so s3 0))), (7, .int (nI i)), (8, .int (nI (by4 f (p + 2))))], [.int (6 + (nI (by4 f (p + 2)))), .int (nI p)], M50)) rfl rfl rfl ?_
                rw [nI_add2 (p := 6) (k := by4 f (p + 2)) (x := 6) (y := (nI (by4 f (p + 2)))) rfl rfl (by omega)]
                show pl _ _ _ (_, [(0, .ref m0), (2, .int 1), (3, .int (nI x)), (4, .int (nI (by2 f p1))), (5, .int (nI p)), (6, .int (nI (so s3 0))), (7, .int (nI i)), (8, .int (nI (by4 f (p + 2))))], [.int (nI (6 + by4 f (p + 2))), .int (nI p)], M50) _
                refine ps_st (S' := (276, [(0, .ref m0), (2, .int 1), (3, .int (nI x)), (4, .int (nI (by2 f p1))), (5, .int (nI p)), (6, .int (nI (so s3 0))), (7, .int (nI i)), (8, .int (nI (by4 f (p + 2))))], [.int ((nI p) + (nI (6 + by4 f (p + 2))))], M50)) rfl rfl rfl ?_
                rw [nI_add1 (p := p) (k := 6 + by4 f (p + 2)) (x := (nI (6 + by4 f (p + 2)))) rfl (by omega)]
                rw [show nI (p + (6 + by4 f (p + 2))) = nI (p + 6 + by4 f (p + 2)) from congrArg nI (by omega)]
                show pl _ _ _ (_, [(0, .ref m0), (2, .int 1), (3, .int (nI x)), (4, .int (nI (by2 f p1))), (5, .int (nI p)), (6, .int (nI (so s3 0))), (7, .int (nI i)), (8, .int (nI (by4 f (p + 2))))], [.int (nI (p + 6 + by4 f (p + 2)))], M50) _
                refine ps_st (S' := (278, [(5, .int (nI (p + 6 + by4 f (p + 2)))), (0, .ref m0), (2, .int 1), (3, .int (nI x)), (4, .int (nI (by2 f p1))), (6, .int (nI (so s3 0))), (7, .int (nI i)), (8, .int (nI (by4 f (p + 2))))], [], M50)) rfl rfl rfl ?_
                refine ps_st (S' := (281, [(7, .int ((nI i) + 1)), (5, .int (nI (p + 6 + by4 f (p + 2)))), (0, .ref m0), (2, .int 1), (3, .int (nI x)), (4, .int (nI (by2 f p1))), (6, .int (nI (so s3 0))), (8, .int (nI (by4 f (p + 2))))], [], M50)) rfl rfl rfl ?_
                rw [nI_add1 (p := i) (k := 1) (x := 1) rfl (by omega)]
                show pl _ _ _ (_, [(7, .int (nI (i + 1))), (5, .int (nI (p + 6 + by4 f (p + 2)))), (0, .ref m0), (2, .int 1), (3, .int (nI x)), (4, .int (nI (by2 f p1))), (6, .int (nI (so s3 0))), (8, .int (nI (by4 f (p + 2))))], [], M50) _
                refine ps_st (S' := (18, [(0, .ref m0), (2, .int 1), (3, .int (nI x)), (4, .int (nI (by2 f p1))), (5, .int (nI (p + 6 + by4 f (p + 2)))), (6, .int (nI (so s3 0))), (7, .int (nI (i + 1)))], [], M50)) rfl rfl rfl ?_
                exact ih.1 (i + 1) (p + 6 + by4 f (p + 2)) (so s2 1) (so s3 0) ((K.1 + 1, if aN fl 8 = 0 then K.2 else by2 f (p + 6))) M50 I122 R123 hR124 hEI136 hER137 hi128 hi129 hi130 hF_131 hY_132 hP_133 hK_134 hX_135 hW_127 (by omega) (so_lt hl (by decide)) (by rw [sb_so, sb_so]; rfl) (hq7) (by
                    rw [← hs9, faS_k (i := i) (p := p) (s := s2) hi0 h1 hsm (by omega), if_neg (fun h9 => h9 q233_s), if_neg (fun h9 => (by rcases q233_b with h8 | h8; exact h9.1 (has_9.mpr h8); exact h9.2 h8))]) (by
                    rw [← hu, faU_st (i := i) (p := p) hi0, hsm, stF_9]) (Nat.succ_le_succ hkn)
            · have c_198 : ¬ (¬ (nI (sb s3 0)) = 1) := of_decide_eq_false c_198
              have n_198 : sb s3 0 = 1 := (eq_nI (p := sb s3 0) (n := 1) (Nat.lt_trans (sb_lt _ _) (by decide)) (by decide)).mp (Decidable.not_not.mp c_198)
              refine ps_st (S' := (202, [(0, .ref m0), (2, .int 1), (3, .int (nI x)), (4, .int (nI (by2 f p1))), (5, .int (nI p)), (6, .int (nI s3)), (7, .int (nI i)), (8, .int (nI (by4 f (p + 2)))), (10, .int (nI 0))], [.ref m0], M38)) rfl rfl rfl ?_
              refine ps_st (S' := (204, [(0, .ref m0), (2, .int 1), (3, .int (nI x)), (4, .int (nI (by2 f p1))), (5, .int (nI p)), (6, .int (nI s3)), (7, .int (nI i)), (8, .int (nI (by4 f (p + 2)))), (10, .int (nI 0))], [.int 29, .ref m0], M38)) rfl rfl rfl ?_
              refine ps_st (S' := (206, [(0, .ref m0), (2, .int 1), (3, .int (nI x)), (4, .int (nI (by2 f p1))), (5, .int (nI p)), (6, .int (nI s3)), (7, .int (nI i)), (8, .int (nI (by4 f (p + 2)))), (10, .int (nI 0))], [.int (nI p), .int 29, .ref m0], M38)) rfl rfl rfl ?_
              refine pl_call (a := [.ref m0, .int 29, .int (nI p)]) (rest := []) rfl rfl rfl (rd_wrong (x1 := 29) (x2 := (nI p)) hR40) (fun v138 M139 q140 => ?_)
              obtain ⟨I141, R142, rfl, hR143, hI144, hX145, hi146, hi147⟩ := q140
              have hi148 := (hI144 51 (by decide)).trans hl51
              have hi149 := (hI144 52 (by decide)).trans hl52
              have hi150 := (hI144 53 (by decide)).trans hl53
              have hF_151 := hF_42.mono (cIx hI144 (by decide)) (cRx hX145 (by decide))
              have hY_152 := hY_43.mono (cIx hI144 (by decide)) (cRx hX145 (by decide))
              have hP_153 := hP_44.mono (cIx hI144 (by decide)) (cRx hX145 (by decide))
              have hK_154 := hK_45.mono (cIx hI144 (by decide)) (cRx hX145 (by decide))
              have hX_155 := hX_46.mono (cIx hI144 (by decide)) (cRx hX145 (by decide))
              have hW_156 := hW_48.mono (cIx hI144 (by decide)) (cRx hX145 (by decide))
              have hEI157 := hEI1.tr hI144 (by decide)
              have hER158 := hER47.tr hX145 (by decide)
              show pl _ _ _ (209, [(0, .ref m0), (2, .int 1), (3, .int (nI x)), (4, .int (nI (by2 f p1))), (5, .int (nI p)), (6, .int (nI s3)), (7, .int (nI i)), (8, .int (nI (by4 f (p + 2)))), (10, .int (nI 0))], [.int 0], M139) _
              refine ps_st (S' := (210, [(0, .ref m0), (2, .int 1), (3, .int (nI x)), (4, .int (nI (by2 f p1))), (5, .int (nI p)), (6, .int (nI s3)), (7, .int (nI i)), (8, .int (nI (by4 f (p + 2)))), (10, .int (nI 0))], [], M139)) rfl rfl rfl ?_
              refine ps_st (S' := (211, [(0, .ref m0), (2, .int 1), (3, .int (nI x)), (4, .int (nI (by2 f p1))), (5, .int (nI p)), (6, .int (nI s3)), (7, .int (nI i)), (8, .int (nI (by4 f (p + 2)))), (10, .int (nI 0))], [.int (-1)], M139)) rfl rfl rfl ?_
              exact ps_ret rfl rfl (Or.inl ⟨(29, p), I141, R142, by
                  rw [← hs9, faS_29 (i := i) (p := p) (s := s2) hi0 h1 hsm (by omega)], rfl, hR143, hEI157, hER158, hi146, hi147⟩)
        · have c_86 : ¬ ((nI 10) ≤ (nI k)) := of_decide_eq_false c_86
          have n_86 : ¬ (10 ≤ k) := fun h9 => c_86 ((le_nI (p := 10) (n := k) (by decide) (by omega)).mpr h9)
          refine ps_st (S' := (90, [(0, .ref m0), (2, .int 1), (3, .int (nI x)), (4, .int (nI (by2 f p1))), (5, .int (nI p)), (6, .int (nI s3)), (7, .int (nI i)), (8, .int (nI (by4 f (p + 2)))), (9, .int (nI t)), (10, .int (gI (kb mj 1 (tX f n E (by2 f p)) k))), (11, .int (nI k))], [.ref m0], M1)) rfl rfl rfl ?_
          refine pr_ref (j := 63) (S' := (93, [(0, .ref m0), (2, .int 1), (3, .int (nI x)), (4, .int (nI (by2 f p1))), (5, .int (nI p)), (6, .int (nI s3)), (7, .int (nI i)), (8, .int (nI (by4 f (p + 2)))), (9, .int (nI t)), (10, .int (gI (kb mj 1 (tX f n E (by2 f p)) k))), (11, .int (nI k))], [.ref (q 63)], M1)) rfl hR1 rfl rfl ?_
          refine ps_st (S' := (95, [(0, .ref m0), (2, .int 1), (3, .int (nI x)), (4, .int (nI (by2 f p1))), (5, .int (nI p)), (6, .int (nI s3)), (7, .int (nI i)), (8, .int (nI (by4 f (p + 2)))), (9, .int (nI t)), (10, .int (gI (kb mj 1 (tX f n E (by2 f p)) k))), (11, .int (nI k))], [.int (nI k), .ref (q 63)], M1)) rfl rfl rfl ?_
          have hki_95 := kiN_lt k
          refine pr_ld (a := 63) (j := k) (y := (nI (kiN k))) (S' := (96, [(0, .ref m0), (2, .int 1), (3, .int (nI x)), (4, .int (nI (by2 f p1))), (5, .int (nI p)), (6, .int (nI s3)), (7, .int (nI i)), (8, .int (nI (by4 f (p + 2)))), (9, .int (nI t)), (10, .int (gI (kb mj 1 (tX f n E (by2 f p)) k))), (11, .int (nI k))], [.int (nI (kiN k))], M1)) rfl hR1 rfl (by omega) (fun _ => (hK1 k (by omega)).1) rfl (fun i1_95 => ?_)
          refine ps_st (S' := (97, [(0, .ref m0), (2, .int 1), (3, .int (nI x)), (4, .int (nI (by2 f p1))), (5, .int (nI p)), (6, .int (nI s3)), (7, .int (nI i)), (8, .int (nI (by4 f (p + 2)))), (9, .int (nI t)), (10, .int (gI (kb mj 1 (tX f n E (by2 f p)) k))), (11, .int (nI k))], [.int 1, .int (nI (kiN k))], M1)) rfl rfl rfl ?_
          refine ps_if2 (S1 := (134, [(0, .ref m0), (2, .int 1), (3, .int (nI x)), (4, .int (nI (by2 f p1))), (5, .int (nI p)), (6, .int (nI s3)), (7, .int (nI i)), (8, .int (nI (by4 f (p + 2)))), (9, .int (nI t)), (10, .int (gI (kb mj 1 (tX f n E (by2 f p)) k))), (11, .int (nI k))], [], M1)) (S2 := (100, [(0, .ref m0), (2, .int 1), (3, .int (nI x)), (4, .int (nI (by2 f p1))), (5, .int (nI p)), (6, .int (nI s3)), (7, .int (nI i)), (8, .int (nI (by4 f (p + 2)))), (9, .int (nI t)), (10, .int (gI (kb mj 1 (tX f n E (by2 f p)) k))), (11, .int (nI k))], [], M1)) rfl rfl rfl (fun c_97 => ?_) (fun c_97 => ?_)
          · have c_97 : ¬ (nI (kiN k)) = 1 := of_decide_eq_true c_97
            have n_97 : ¬ (kiN k = 1) := fun h9 => c_97 ((eq_nI (p := kiN k) (n := 1) (Nat.lt_trans (kiN_lt _) (by decide)) (by decide)).mpr h9)
            refine ps_st (S' := (137, [(11, .int ((nI k) + 1)), (0, .ref m0), (2, .int 1), (3, .int (nI x)), (4, .int (nI (by2 f p1))), (5, .int (nI p)), (6, .int (nI s3)), (7, .int (nI i)), (8, .int (nI (by4 f (p + 2)))), (9, .int (nI t)), (10, .int (gI (kb mj 1 (tX f n E (by2 f p)) k)))], [], M1)) rfl rfl rfl ?_
            rw [nI_add1 (p := k) (k := 1) (x := 1) rfl (by omega)]
            show pl _ _ _ (_, [(11, .int (nI (k + 1))), (0, .ref m0), (2, .int 1), (3, .int (nI x)), (4, .int (nI (by2 f p1))), (5, .int (nI p)), (6, .int (nI s3)), (7, .int (nI i)), (8, .int (nI (by4 f (p + 2)))), (9, .int (nI t)), (10, .int (gI (kb mj 1 (tX f n E (by2 f p)) k)))], [], M1) _
            refine ps_st (S' := (79, [(0, .ref m0), (2, .int 1), (3, .int (nI x)), (4, .int (nI (by2 f p1))), (5, .int (nI p)), (6, .int (nI s3)), (7, .int (nI i)), (8, .int (nI (by4 f (p + 2)))), (9, .int (nI t)), (10, .int (gI (kb mj 1 (tX f n E (by2 f p)) k))), (11, .int (nI (k + 1)))], [], M1)) rfl rfl rfl ?_
            have hkb : (gI (kb mj 1 (tX f n E (by2 f p)) k)) = gI (kb mj 1 (tX f n E (by2 f p)) (k + 1)) := by
              conv => rhs; unfold kb
              rw [if_neg (by omega)]
            rw [hkb]
            exact ih.2 (i) (p) (s2) (s3) (k + 1) (t) (K) M1 I1 R1 hR1 hEI1 hER1 hl51 hl52 hl53 hF1 hY1 hP1 hK1 hX1 hW1 (hi0) (hl) (hb) (ha) (hs9) (hu) (hkn) (by omega) (h1) (hsy)
          · have c_97 : ¬ (¬ (nI (kiN k)) = 1) := of_decide_eq_false c_97
            have n_97 : kiN k = 1 := (eq_nI (p := kiN k) (n := 1) (Nat.lt_trans (kiN_lt _) (by decide)) (by decide)).mp (Decidable.not_not.mp c_97)
            refine ps_st (S' := (101, [(0, .ref m0), (2, .int 1), (3, .int (nI x)), (4, .int (nI (by2 f p1))), (5, .int (nI p)), (6, .int (nI s3)), (7, .int (nI i)), (8, .int (nI (by4 f (p + 2)))), (9, .int (nI t)), (10, .int (gI (kb mj 1 (tX f n E (by2 f p)) k))), (11, .int (nI k))], [.ref m0], M1)) rfl rfl rfl ?_
            refine pr_int (j := 53) (S' := (104, [(0, .ref m0), (2, .int 1), (3, .int (nI x)), (4, .int (nI (by2 f p1))), (5, .int (nI p)), (6, .int (nI s3)), (7, .int (nI i)), (8, .int (nI (by4 f (p + 2)))), (9, .int (nI t)), (10, .int (gI (kb mj 1 (tX f n E (by2 f p)) k))), (11, .int (nI k))], [.int (nI mj)], M1)) rfl hR1 rfl hl53 rfl ?_
            refine ps_st (S' := (105, [(0, .ref m0), (2, .int 1), (3, .int (nI x)), (4, .int (nI (by2 f p1))), (5, .int (nI p)), (6, .int (nI s3)), (7, .int (nI i)), (8, .int (nI (by4 f (p + 2)))), (9, .int (nI t)), (10, .int (gI (kb mj 1 (tX f n E (by2 f p)) k))), (11, .int (nI k))], [.ref m0, .int (nI mj)], M1)) rfl rfl rfl ?_
            refine pr_ref (j := 64) (S' := (108, [(0, .ref m0), (2, .int 1), (3, .int (nI x)), (4, .int (nI (by2 f p1))), (5, .int (nI p)), (6, .int (nI s3)), (7, .int (nI i)), (8, .int (nI (by4 f (p + 2)))), (9, .int (nI t)), (10, .int (gI (kb mj 1 (tX f n E (by2 f p)) k))), (11, .int (nI k))], [.ref (q 64), .int (nI mj)], M1)) rfl hR1 rfl rfl ?_
            refine ps_st (S' := (110, [(0, .ref m0), (2, .int 1), (3, .int (nI x)), (4, .int (nI (by2 f p1))), (5, .int (nI p)), (6, .int (nI s3)), (7, .int (nI i)), (8, .int (nI (by4 f (p + 2)))), (9, .int (nI t)), (10, .int (gI (kb mj 1 (tX f n E (by2 f p)) k))), (11, .int (nI k))], [.int (nI k), .ref (q 64), .int (nI mj)], M1)) rfl rfl rfl ?_
            have hkf_110 := kfN_lt k
            refine pr_ld (a := 64) (j := k) (y := (nI (kfN k))) (S' := (111, [(0, .ref m0), (2, .int 1), (3, .int (nI x)), (4, .int (nI (by2 f p1))), (5, .int (nI p)), (6, .int (nI s3)), (7, .int (nI i)), (8, .int (nI (by4 f (p + 2)))), (9, .int (nI t)), (10, .int (gI (kb mj 1 (tX f n E (by2 f p)) k))), (11, .int (nI k))], [.int (nI (kfN k)), .int (nI mj)], M1)) rfl hR1 rfl (by omega) (fun _ => (hK1 k (by omega)).2) rfl (fun i1_110 => ?_)
            refine ps_if2 (S1 := (134, [(0, .ref m0), (2, .int 1), (3, .int (nI x)), (4, .int (nI (by2 f p1))), (5, .int (nI p)), (6, .int (nI s3)), (7, .int (nI i)), (8, .int (nI (by4 f (p + 2)))), (9, .int (nI t)), (10, .int (gI (kb mj 1 (tX f n E (by2 f p)) k))), (11, .int (nI k))], [], M1)) (S2 := (114, [(0, .ref m0), (2, .int 1), (3, .int (nI x)), (4, .int (nI (by2 f p1))), (5, .int (nI p)), (6, .int (nI s3)), (7, .int (nI i)), (8, .int (nI (by4 f (p + 2)))), (9, .int (nI t)), (10, .int (gI (kb mj 1 (tX f n E (by2 f p)) k))), (11, .int (nI k))], [], M1)) rfl rfl rfl (fun c_111 => ?_) (fun c_111 => ?_)
            · have c_111 : (nI mj) < (nI (kfN k)) := of_decide_eq_true c_111
              have n_111 : mj < kfN k := (lt_nI (p := mj) (n := kfN k) (by omega) (Nat.lt_trans (kfN_lt _) (by decide))).mp c_111
              refine ps_st (S' := (137, [(11, .int ((nI k) + 1)), (0, .ref m0), (2, .int 1), (3, .int (nI x)), (4, .int (nI (by2 f p1))), (5, .int (nI p)), (6, .int (nI s3)), (7, .int (nI i)), (8, .int (nI (by4 f (p + 2)))), (9, .int (nI t)), (10, .int (gI (kb mj 1 (tX f n E (by2 f p)) k)))], [], M1)) rfl rfl rfl ?_
              rw [nI_add1 (p := k) (k := 1) (x := 1) rfl (by omega)]
              show pl _ _ _ (_, [(11, .int (nI (k + 1))), (0, .ref m0), (2, .int 1), (3, .int (nI x)), (4, .int (nI (by2 f p1))), (5, .int (nI p)), (6, .int (nI s3)), (7, .int (nI i)), (8, .int (nI (by4 f (p + 2)))), (9, .int (nI t)), (10, .int (gI (kb mj 1 (tX f n E (by2 f p)) k)))], [], M1) _
              refine ps_st (S' := (79, [(0, .ref m0), (2, .int 1), (3, .int (nI x)), (4, .int (nI (by2 f p1))), (5, .int (nI p)), (6, .int (nI s3)), (7, .int (nI i)), (8, .int (nI (by4 f (p + 2)))), (9, .int (nI t)), (10, .int (gI (kb mj 1 (tX f n E (by2 f p)) k))), (11, .int (nI (k + 1)))], [], M1)) rfl rfl rfl ?_
              have hkb : (gI (kb mj 1 (tX f n E (by2 f p)) k)) = gI (kb mj 1 (tX f n E (by2 f p)) (k + 1)) := by
                conv => rhs; unfold kb
                rw [if_neg (by omega)]
              rw [hkb]
              exact ih.2 (i) (p) (s2) (s3) (k + 1) (t) (K) M1 I1 R1 hR1 hEI1 hER1 hl51 hl52 hl53 hF1 hY1 hP1 hK1 hX1 hW1 (hi0) (hl) (hb) (ha) (hs9) (hu) (hkn) (by omega) (h1) (hsy)
            · have c_111 : ¬ ((nI mj) < (nI (kfN k))) := of_decide_eq_false c_111
              have n_111 : ¬ (mj < kfN k) := fun h9 => c_111 ((lt_nI (p := mj) (n := kfN k) (by omega) (Nat.lt_trans (kfN_lt _) (by decide))).mpr h9)
              refine ps_st (S' := (115, [(0, .ref m0), (2, .int 1), (3, .int (nI x)), (4, .int (nI (by2 f p1))), (5, .int (nI p)), (6, .int (nI s3)), (7, .int (nI i)), (8, .int (nI (by4 f (p + 2)))), (9, .int (nI t)), (10, .int (gI (kb mj 1 (tX f n E (by2 f p)) k))), (11, .int (nI k))], [.ref m0], M1)) rfl rfl rfl ?_
              refine ps_st (S' := (117, [(0, .ref m0), (2, .int 1), (3, .int (nI x)), (4, .int (nI (by2 f p1))), (5, .int (nI p)), (6, .int (nI s3)), (7, .int (nI i)), (8, .int (nI (by4 f (p + 2)))), (9, .int (nI t)), (10, .int (gI (kb mj 1 (tX f n E (by2 f p)) k))), (11, .int (nI k))], [.int (nI t), .ref m0], M1)) rfl rfl rfl ?_
              refine ps_st (S' := (118, [(0, .ref m0), (2, .int 1), (3, .int (nI x)), (4, .int (nI (by2 f p1))), (5, .int (nI p)), (6, .int (nI s3)), (7, .int (nI i)), (8, .int (nI (by4 f (p + 2)))), (9, .int (nI t)), (10, .int (gI (kb mj 1 (tX f n E (by2 f p)) k))), (11, .int (nI k))], [.ref m0, .int (nI t), .ref m0], M1)) rfl rfl rfl ?_
              refine pr_ref (j := 62) (S' := (121, [(0, .ref m0), (2, .int 1), (3, .int (nI x)), (4, .int (nI (by2 f p1))), (5, .int (nI p)), (6, .int (nI s3)), (7, .int (nI i)), (8, .int (nI (by4 f (p + 2)))), (9, .int (nI t)), (10, .int (gI (kb mj 1 (tX f n E (by2 f p)) k))), (11, .int (nI k))], [.ref (q 62), .int (nI t), .ref m0], M1)) rfl hR1 rfl rfl ?_
              refine ps_st (S' := (123, [(0, .ref m0), (2, .int 1), (3, .int (nI x)), (4, .int (nI (by2 f p1))), (5, .int (nI p)), (6, .int (nI s3)), (7, .int (nI i)), (8, .int (nI (by4 f (p + 2)))), (9, .int (nI t)), (10, .int (gI (kb mj 1 (tX f n E (by2 f p)) k))), (11, .int (nI k))], [.int (nI k), .ref (q 62), .int (nI t), .ref m0], M1)) rfl rfl rfl ?_
              refine pr_kn (j := k) (S' := (124, [(0, .ref m0), (2, .int 1), (3, .int (nI x)), (4, .int (nI (by2 f p1))), (5, .int (nI p)), (6, .int (nI s3)), (7, .int (nI i)), (8, .int (nI (by4 f (p + 2)))), (9, .int (nI t)), (10, .int (gI (kb mj 1 (tX f n E (by2 f p)) k))), (11, .int (nI k))], [.ref (g.2.1 (15 + k)), .int (nI t), .ref m0], M1)) rfl hR1 (by omega) rfl ?_
              refine pl_call (a := [.ref m0, .int (nI t), .ref (g.2.1 (15 + k))]) (rest := []) rfl rfl rfl (rd_is (tx := tx) (cN := cN) (A := A) (s := t) (l := (tX f n E (by2 f p))) (lk := (15 + k)) hR1 hY1 (hsy) (⟨by omega, by omega⟩)) (fun v159 M160 q161 => ?_)
              obtain ⟨rfl, rfl⟩ := q161
              show pl _ _ _ (127, [(0, .ref m0), (2, .int 1), (3, .int (nI x)), (4, .int (nI (by2 f p1))), (5, .int (nI p)), (6, .int (nI s3)), (7, .int (nI i)), (8, .int (nI (by4 f (p + 2)))), (9, .int (nI t)), (10, .int (gI (kb mj 1 (tX f n E (by2 f p)) k))), (11, .int (nI k))], [.int (nI (eqN (tX f n E (by2 f p)) (ltx (15 + k))))], M1) _
              refine ps_if (S1 := (134, [(0, .ref m0), (2, .int 1), (3, .int (nI x)), (4, .int (nI (by2 f p1))), (5, .int (nI p)), (6, .int (nI s3)), (7, .int (nI i)), (8, .int (nI (by4 f (p + 2)))), (9, .int (nI t)), (10, .int (gI (kb mj 1 (tX f n E (by2 f p)) k))), (11, .int (nI k))], [], M1)) (S2 := (130, [(0, .ref m0), (2, .int 1), (3, .int (nI x)), (4, .int (nI (by2 f p1))), (5, .int (nI p)), (6, .int (nI s3)), (7, .int (nI i)), (8, .int (nI (by4 f (p + 2)))), (9, .int (nI t)), (10, .int (gI (kb mj 1 (tX f n E (by2 f p)) k))), (11, .int (nI k))], [], M1)) rfl rfl rfl (fun c_127 => ?_) (fun c_127 => ?_)
              · have c_127 : (nI (eqN (tX f n E (by2 f p)) (ltx (15 + k)))) = 0 := of_decide_eq_true c_127
                have n_127 : eqN (tX f n E (by2 f p)) (ltx (15 + k)) = 0 := (eq_nI (p := eqN (tX f n E (by2 f p)) (ltx (15 + k))) (n := 0) (Nat.lt_trans (le1_eq _ _) (by decide)) (by decide)).mp c_127
                refine ps_st (S' := (137, [(11, .int ((nI k) + 1)), (0, .ref m0), (2, .int 1), (3, .int (nI x)), (4, .int (nI (by2 f p1))), (5, .int (nI p)), (6, .int (nI s3)), (7, .int (nI i)), (8, .int (nI (by4 f (p + 2)))), (9, .int (nI t)), (10, .int (gI (kb mj 1 (tX f n E (by2 f p)) k)))], [], M1)) rfl rfl rfl ?_
                rw [nI_add1 (p := k) (k := 1) (x := 1) rfl (by omega)]
                show pl _ _ _ (_, [(11, .int (nI (k + 1))), (0, .ref m0), (2, .int 1), (3, .int (nI x)), (4, .int (nI (by2 f p1))), (5, .int (nI p)), (6, .int (nI s3)), (7, .int (nI i)), (8, .int (nI (by4 f (p + 2)))), (9, .int (nI t)), (10, .int (gI (kb mj 1 (tX f n E (by2 f p)) k)))], [], M1) _
                refine ps_st (S' := (79, [(0, .ref m0), (2, .int 1), (3, .int (nI x)), (4, .int (nI (by2 f p1))), (5, .int (nI p)), (6, .int (nI s3)), (7, .int (nI i)), (8, .int (nI (by4 f (p + 2)))), (9, .int (nI t)), (10, .int (gI (kb mj 1 (tX f n E (by2 f p)) k))), (11, .int (nI (k + 1)))], [], M1)) rfl rfl rfl ?_
                have hkb : (gI (kb mj 1 (tX f n E (by2 f p)) k)) = gI (kb mj 1 (tX f n E (by2 f p)) (k + 1)) := by
                  conv => rhs; unfold kb
                  rw [if_neg (by omega)]
                rw [hkb]
                exact ih.2 (i) (p) (s2) (s3) (k + 1) (t) (K) M1 I1 R1 hR1 hEI1 hER1 hl51 hl52 hl53 hF1 hY1 hP1 hK1 hX1 hW1 (hi0) (hl) (hb) (ha) (hs9) (hu) (hkn) (by omega) (h1) (hsy)
              · have c_127 : ¬ ((nI (eqN (tX f n E (by2 f p)) (ltx (15 + k)))) = 0) := of_decide_eq_false c_127
                have n_127 : ¬ (eqN (tX f n E (by2 f p)) (ltx (15 + k)) = 0) := fun h9 => c_127 ((eq_nI (p := eqN (tX f n E (by2 f p)) (ltx (15 + k))) (n := 0) (Nat.lt_trans (le1_eq _ _) (by decide)) (by decide)).mpr h9)
                refine ps_st (S' := (132, [(0, .ref m0), (2, .int 1), (3, .int (nI x)), (4, .int (nI (by2 f p1))), (5, .int (nI p)), (6, .int (nI s3)), (7, .int (nI i)), (8, .int (nI (by4 f (p + 2)))), (9, .int (nI t)), (10, .int (gI (kb mj 1 (tX f n E (by2 f p)) k))), (11, .int (nI k))], [.int (nI k)], M1)) rfl rfl rfl ?_
                refine ps_st (S' := (134, [(0, .ref m0), (2, .int 1), (3, .int (nI x)), (4, .int (nI (by2 f p1))), (5, .int (nI p)), (6, .int (nI s3)), (7, .int (nI i)), (8, .int (nI (by4 f (p + 2)))), (9, .int (nI t)), (10, .int (nI k)), (11, .int (nI k))], [], M1)) rfl rfl rfl ?_
                refine ps_st (S' := (137, [(11, .int ((nI k) + 1)), (0, .ref m0), (2, .int 1), (3, .int (nI x)), (4, .int (nI (by2 f p1))), (5, .int (nI p)), (6, .int (nI s3)), (7, .int (nI i)), (8, .int (nI (by4 f (p + 2)))), (9, .int (nI t)), (10, .int (nI k))], [], M1)) rfl rfl rfl ?_
                rw [nI_add1 (p := k) (k := 1) (x := 1) rfl (by omega)]
                show pl _ _ _ (_, [(11, .int (nI (k + 1))), (0, .ref m0), (2, .int 1), (3, .int (nI x)), (4, .int (nI (by2 f p1))), (5, .int (nI p)), (6, .int (nI s3)), (7, .int (nI i)), (8, .int (nI (by4 f (p + 2)))), (9, .int (nI t)), (10, .int (nI k))], [], M1) _
                refine ps_st (S' := (79, [(0, .ref m0), (2, .int 1), (3, .int (nI x)), (4, .int (nI (by2 f p1))), (5, .int (nI p)), (6, .int (nI s3)), (7, .int (nI i)), (8, .int (nI (by4 f (p + 2)))), (9, .int (nI t)), (10, .int (nI k)), (11, .int (nI (k + 1)))], [], M1)) rfl rfl rfl ?_
                have hkb : (nI k) = gI (kb mj 1 (tX f n E (by2 f p)) (k + 1)) := by
                  conv => rhs; unfold kb
                  rw [if_pos ⟨by omega, by omega, by omega⟩]
                  rfl
                rw [hkb]
                exact ih.2 (i) (p) (s2) (s3) (k + 1) (t) (K) M1 I1 R1 hR1 hEI1 hER1 hl51 hl52 hl53 hF1 hY1 hP1 hK1 hX1 hW1 (hi0) (hl) (hb) (ha) (hs9) (hu) (hkn) (by omega) (h1) (hsy)
  refine ps_st (S' := (1, [(0, .ref m0), (1, .int (nI p1)), (2, .int 1), (3, .int (nI x))], [.ref m0], M)) rfl rfl rfl ?_
  refine ps_st (S' := (2, [(0, .ref m0), (1, .int (nI p1)), (2, .int 1), (3, .int (nI x))], [.int (nI p1), .ref m0], M)) rfl rfl rfl ?_
  refine pl_call (a := [.ref m0, .int (nI p1)]) (rest := []) rfl rfl rfl (rd_u2 (n := n) (f := f) (p := p1) hR hF (by omega)) (fun v162 M163 q164 => ?_)
  obtain ⟨rfl, rfl⟩ := q164
  show pl _ _ _ (5, [(0, .ref m0), (1, .int (nI p1)), (2, .int 1), (3, .int (nI x))], [.int (nI (by2 f p1))], M) _
  have hu_2 := by2_lt f p1
  refine ps_st (S' := (7, [(4, .int (nI (by2 f p1))), (0, .ref m0), (1, .int (nI p1)), (2, .int 1), (3, .int (nI x))], [], M)) rfl rfl rfl ?_
  refine ps_st (S' := (8, [(4, .int (nI (by2 f p1))), (0, .ref m0), (1, .int (nI p1)), (2, .int 1), (3, .int (nI x))], [.int (nI p1)], M)) rfl rfl rfl ?_
  refine ps_st (S' := (9, [(4, .int (nI (by2 f p1))), (0, .ref m0), (1, .int (nI p1)), (2, .int 1), (3, .int (nI x))], [.int 2, .int (nI p1)], M)) rfl rfl rfl ?_
  refine ps_st (S' := (10, [(4, .int (nI (by2 f p1))), (0, .ref m0), (1, .int (nI p1)), (2, .int 1), (3, .int (nI x))], [.int ((nI p1) + 2)], M)) rfl rfl rfl ?_
  rw [nI_add1 (p := p1) (k := 2) (x := 2) rfl (by omega)]
  show pl _ _ _ (_, [(4, .int (nI (by2 f p1))), (0, .ref m0), (1, .int (nI p1)), (2, .int 1), (3, .int (nI x))], [.int (nI (p1 + 2))], M) _
  refine ps_st (S' := (12, [(5, .int (nI (p1 + 2))), (4, .int (nI (by2 f p1))), (0, .ref m0), (1, .int (nI p1)), (2, .int 1), (3, .int (nI x))], [], M)) rfl rfl rfl ?_
  refine ps_st (S' := (13, [(5, .int (nI (p1 + 2))), (4, .int (nI (by2 f p1))), (0, .ref m0), (1, .int (nI p1)), (2, .int 1), (3, .int (nI x))], [.int 0], M)) rfl rfl rfl ?_
  refine ps_st (S' := (15, [(6, .int 0), (5, .int (nI (p1 + 2))), (4, .int (nI (by2 f p1))), (0, .ref m0), (1, .int (nI p1)), (2, .int 1), (3, .int (nI x))], [], M)) rfl rfl rfl ?_
  refine ps_st (S' := (16, [(6, .int 0), (5, .int (nI (p1 + 2))), (4, .int (nI (by2 f p1))), (0, .ref m0), (1, .int (nI p1)), (2, .int 1), (3, .int (nI x))], [.int 0], M)) rfl rfl rfl ?_
  refine ps_st (S' := (18, [(0, .ref m0), (2, .int 1), (3, .int (nI x)), (4, .int (nI (by2 f p1))), (5, .int (nI (p1 + 2))), (6, .int 0), (7, .int 0)], [], M)) rfl rfl rfl ?_
  exact (LL kf).1 (0) (p1 + 2) (0) (0) ((0, 0)) M I R hR hEI hER hi51 hi52 hi53 hF hY hP hK hX hW (by omega) (by decide) (rfl) (hat) (rfl) (rfl) (Nat.le_refl _)
set_option maxHeartbeats 8000000 in
theorem rd_checkFields7 {g : xe_G} {m0 : Nat} {q : Nat → Nat} {z : Nat × Nat} {I : rI} {R : rR} {M : mi_H} {n : Nat} {f : Nat → Int32} {tx : List (List Nat)} {cN : Nat} {A : Nat → Nat} {N mj : Nat} {E : List (Nat × Nat)} {pF f0 cf : Nat} {B : List Nat} {E1 : Nat → Nat} (hR : RS g m0 q z I R M) (hi51 : I 51 = some 0) (hi52 : I 52 = some (nI N)) (hi53 : I 53 = some (nI mj)) (hi58 : I 58 = some (nI cf)) (hi55 : I 55 = some (nI pF)) (hi25 : I 25 = some (nI f0)) (hF : FK n f I R) (hY : SYT tx cN A I R) (hP : RPV f n E tx N I R) (hK : KX I R) (hEP : EP f n E) (hN : N < 65536) (hmj : mj < 65536) (hMB : MBS f n B pF E1) (hf0 : f0 ≤ 8300) (hcf : cf < 65536) : pt (mT g) 189 [.ref m0] M (fun v M' => (∃  (I' : rI) (R' : rR), (flS f n E cf B B.length 0 = none) ∧ v = some (.int 1) ∧ RS g m0 q z I' R' M' ∧ eqI [25, 47, 48] I I' ∧ eqR [27, 28, 29, 30, 31, 32, 33] R R' ∧ I' 25 = some (nI (f0 + B.length)) ∧ FN 28 29 f n E tx B f0 B.length I' R' ∧ FQ f n E B f0 B.length I' R') ∨ (∃ (e9 : Nat × Nat) (I' : rI) (R' : rR), (flS f n E cf B B.length 0 = some e9) ∧ v = some (.int 0) ∧ RS g m0 q z I' R' M' ∧ eqI [25, 47, 48] I I' ∧ eqR [27, 28, 29, 30, 31, 32, 33] R R' ∧ I' 47 = some (nI e9.1) ∧ I' 48 = some (nI e9.2))) := by
  refine pt_in (b := mb_189 g) rfl (fun kf => ?_)
  show pl (mT g) kf (mb_189 g).2 (0, [(0, .ref m0)], [], M) _
  have hEI : eqI [25, 47, 48] I I := eqI.rf
  have hER : eqR [27, 28, 29, 30, 31, 32, 33] R R := eqR.rf
  have hn := hF.1
  have hBl := hMB.1
  have hp2 := hMB.2.1
  have hFN0 : FN 28 29 f n E tx B f0 0 I R := fun j hj => absurd hj (Nat.not_lt_zero _)
  have hFQ0 : FQ f n E B f0 0 I R := fun j hj => absurd hj (Nat.not_lt_zero _)
  have LL : ∀ (kf : Nat), (∀ (k p : Nat) (M1 : mi_H) (I1 : rI) (R1 : rR), (RS g m0 q z I1 R1 M1) → (eqI [25, 47, 48] I I1) → (eqR [27, 28, 29, 30, 31, 32, 33] R R1) → (I1 51 = some 0) → (I1 52 = some (nI N)) → (I1 53 = some (nI mj)) → (I1 58 = some (nI cf)) → (I1 55 = some (nI pF)) → (I1 25 = some (nI (f0 + k))) → (FK n f I1 R1) → (SYT tx cN A I1 R1) → (RPV f n E tx N I1 R1) → (KX I1 R1) → (FN 28 29 f n E tx B f0 k I1 R1) → (FQ f n E B f0 k I1 R1) → (k ≤ by2 f pF) → (k < by2 f pF → p = B.getD k 0) → (p ≤ n) → (flS f n E cf B (B.length - k) k = flS f n E cf B B.length 0) →  pl (mT g) kf (mb_189 g).2 (22, [(0, .ref m0), (1, .int (nI p)), (2, .int (nI (by2 f pF))), (3, .int (nI f0)), (4, .int (nI k))], [], M1) (fun v M' => (∃  (I' : rI) (R' : rR), (flS f n E cf B B.length 0 = none) ∧ v = some (.int 1) ∧ RS g m0 q z I' R' M' ∧ eqI [25, 47, 48] I I' ∧ eqR [27, 28, 29, 30, 31, 32, 33] R R' ∧ I' 25 = some (nI (f0 + B.length)) ∧ FN 28 29 f n E tx B f0 B.length I' R' ∧ FQ f n E B f0 B.length I' R') ∨ (∃ (e9 : Nat × Nat) (I' : rI) (R' : rR), (flS f n E cf B B.length 0 = some e9) ∧ v = some (.int 0) ∧ RS g m0 q z I' R' M' ∧ eqI [25, 47, 48] I I' ∧ eqR [27, 28, 29, 30, 31, 32, 33] R R' ∧ I' 47 = some (nI e9.1) ∧ I' 48 = some (nI e9.2)))) ∧ (∀ (k p j a d : Nat) (M1 : mi_H) (I1 : rI) (R1 : rR), (RS g m0 q z I1 R1 M1) → (eqI [25, 47, 48] I I1) → (eqR [27, 28, 29, 30, 31, 32, 33] R R1) → (I1 51 = some 0) → (I1 52 = some (nI N)) → (I1 53 = some (nI mj)) → (I1 58 = some (nI cf)) → (I1 55 = some (nI pF)) → (I1 25 = some (nI (f0 + k))) → (FK n f I1 R1) → (SYT tx cN A I1 R1) → (RPV f n E tx N I1 R1) → (KX I1 R1) → (FN 28 29 f n E tx B f0 k I1 R1) → (CE 27 (f0 + k) (nI (by2 f p)) I1 R1) → (CE 28 (f0 + k) (nI a) I1 R1) → (CE 29 (f0 + k) (nI d) I1 R1) → (FQ f n E B f0 k I1 R1) → (CE 30 (f0 + k) 0 I1 R1) → (CE 31 (f0 + k) 0 I1 R1) → (CE 32 (f0 + k) (nI (by2 f (p + 2))) I1 R1) → (CE 33 (f0 + k) (nI (by2 f (p + 4))) I1 R1) → (k < by2 f pF) → (p = B.getD k 0) → (p + 8 ≤ n) → (flS f n E cf B (B.length - k) k = flS f n E cf B B.length 0) → (j ≤ k) → (f0 + k < 8300) → (a < tx.length ∧ tx.getD a [] = tX f n E (by2 f (p + 2))) → (d < tx.length ∧ tx.getD d [] = tX f n E (by2 f (p + 4))) → (tg f E (by2 f (p + 2)) = 1) → (tg f E (by2 f (p + 4)) = 1) → (¬ fflN cf (by2 f p) = 0) → (¬ unqN (tX f n E (by2 f (p + 2))) = 0) → (¬ fldN (tX f n E (by2 f (p + 4))) = 0) → (smeS f n E B (by2 f (p + 2)) (by2 f (p + 4)) (k - j) j = smeS f n E B (by2 f (p + 2)) (by2 f (p + 4)) k 0) →  pl (mT g) kf (mb_189 g).2 (277, [(0, .ref m0), (1, .int (nI p)), (2, .int (nI (by2 f pF))), (3, .int (nI f0)), (4, .int (nI k)), (6, .int (nI (f0 + k))), (7, .int (nI (f0 + j)))], [], M1) (fun v M' => (∃  (I' : rI) (R' : rR), (flS f n E cf B B.length 0 = none) ∧ v = some (.int 1) ∧ RS g m0 q z I' R' M' ∧ eqI [25, 47, 48] I I' ∧ eqR [27, 28, 29, 30, 31, 32, 33] R R' ∧ I' 25 = some (nI (f0 + B.length)) ∧ FN 28 29 f n E tx B f0 B.length I' R' ∧ FQ f n E B f0 B.length I' R') ∨ (∃ (e9 : Nat × Nat) (I' : rI) (R' : rR), (flS f n E cf B B.length 0 = some e9) ∧ v = some (.int 0) ∧ RS g m0 q z I' R' M' ∧ eqI [25, 47, 48] I I' ∧ eqR [27, 28, 29, 30, 31, 32, 33] R R' ∧ I' 47 = some (nI e9.1) ∧ I' 48 = some (nI e9.2)))) := by
    intro kf
    induction kf with
    | zero => exact ⟨by intros; exact pl_0, by intros; exact pl_0⟩
    | succ kf ih =>
      refine ⟨?_, ?_⟩
      · skip
        intro k p M1 I1 R1 hR1 hEI1 hER1 hl51 hl52 hl53 hl58 hl55 hl25 hF1 hY1 hP1 hK1 hN91 hQ1 hk hp hpn hs
        have hn := hF1.1
        have hu9 := by2_lt f pF
        have htl := hY1.1.2.2.1
        have hBl := hMB.1
        refine ps_st1 (S' := (24, [(0, .ref m0), (1, .int (nI p)), (2, .int (nI (by2 f pF))), (3, .int (nI f0)), (4, .int (nI k))], [.int (nI k)], M1)) rfl rfl rfl ?_
        refine ps_st (S' := (25, [(0, .ref m0), (1, .int (nI p)), (2, .int (nI (by2 f pF))), (3, .int (nI f0)), (4, .int (nI k))], [.int (nI (by2 f pF)), .int (nI k)], M1)) rfl rfl rfl ?_
        refine ps_if2 (S1 := (366, [(0, .ref m0), (1, .int (nI p)), (2, .int (nI (by2 f pF))), (3, .int (nI f0)), (4, .int (nI k))], [], M1)) (S2 := (28, [(0, .ref m0), (1, .int (nI p)), (2, .int (nI (by2 f pF))), (3, .int (nI f0)), (4, .int (nI k))], [], M1)) rfl rfl rfl (fun c_25 => ?_) (fun c_25 => ?_)
        · have c_25 : (nI (by2 f pF)) ≤ (nI k) := of_decide_eq_true c_25
          have n_25 : by2 f pF ≤ k := (le_nI (p := by2 f pF) (n := k) (Nat.lt_trans (by2_lt _ _) (by decide)) (by omega)).mp c_25
          refine ps_st (S' := (367, [(0, .ref m0), (1, .int (nI p)), (2, .int (nI (by2 f pF))), (3, .int (nI f0)), (4, .int (nI k))], [.int 1], M1)) rfl rfl rfl ?_
          exact ps_ret rfl rfl (Or.inl ⟨I1, R1, by
              rw [← hs, show B.length - k = 0 by omega]
              rfl, rfl, hR1, hEI1, hER1, by rw [show B.length = k by omega]; exact hl25, by rw [show B.length = k by omega]; exact hN91, by rw [show B.length = k by omega]; exact hQ1⟩)
        · have c_25 : ¬ ((nI (by2 f pF)) ≤ (nI k)) := of_decide_eq_false c_25
          have n_25 : ¬ (by2 f pF ≤ k) := fun h9 => c_25 ((le_nI (p := by2 f pF) (n := k) (Nat.lt_trans (by2_lt _ _) (by decide)) (by omega)).mpr h9)
          have hpk := hp (by omega)
          have hm8 := (hMB.2.2.2 k (by omega)).1
          have hm7 := (hMB.2.2.2 k (by omega)).2.1
          rw [← hpk] at hm8
          have hpe : p + 8 ≤ n := by omega
          have hu8 := by2_lt f p
          refine ps_st (S' := (29, [(0, .ref m0), (1, .int (nI p)), (2, .int (nI (by2 f pF))), (3, .int (nI f0)), (4, .int (nI k))], [.ref m0], M1)) rfl rfl rfl ?_
          refine ps_st (S' := (30, [(0, .ref m0), (1, .int (nI p)), (2, .int (nI (by2 f pF))), (3, .int (nI f0)), (4, .int (nI k))], [.int (nI p), .ref m0], M1)) rfl rfl rfl ?_
          refine pl_call (a := [.ref m0, .int (nI p)]) (rest := []) rfl rfl rfl (rd_u2 (n := n) (f := f) (p := p) hR1 hF1 (by omega)) (fun v1 M2 q3 => ?_)
          obtain ⟨rfl, rfl⟩ := q3
          show pl _ _ _ (33, [(0, .ref m0), (1, .int (nI p)), (2, .int (nI (by2 f pF))), (3, .int (nI f0)), (4, .int (nI k))], [.int (nI (by2 f p))], M1) _
          have hu_30 := by2_lt f p
          refine ps_st (S' := (35, [(5, .int (nI (by2 f p))), (0, .ref m0), (1, .int (nI p)), (2, .int (nI (by2 f pF))), (3, .int (nI f0)), (4, .int (nI k))], [], M1)) rfl rfl rfl ?_
          refine ps_st (S' := (37, [(5, .int (nI (by2 f p))), (0, .ref m0), (1, .int (nI p)), (2, .int (nI (by2 f pF))), (3, .int (nI f0)), (4, .int (nI k))], [.int (nI (by2 f p))], M1)) rfl rfl rfl ?_
          refine ps_st (S' := (38, [(5, .int (nI (by2 f p))), (0, .ref m0), (1, .int (nI p)), (2, .int (nI (by2 f pF))), (3, .int (nI f0)), (4, .int (nI k))], [.int 1, .int (nI (by2 f p))], M1)) rfl rfl rfl ?_
          refine ps_st (S' := (39, [(5, .int (nI (by2 f p))), (0, .ref m0), (1, .int (nI p)), (2, .int (nI (by2 f pF))), (3, .int (nI f0)), (4, .int (nI k))], [.int 2, .int 1, .int (nI (by2 f p))], M1)) rfl rfl rfl ?_
          refine ps_st (S' := (40, [(5, .int (nI (by2 f p))), (0, .ref m0), (1, .int (nI p)), (2, .int (nI (by2 f pF))), (3, .int (nI f0)), (4, .int (nI k))], [.int 4, .int 2, .int 1, .int (nI (by2 f p))], M1)) rfl rfl rfl ?_
          refine pl_call (a := [.int (nI (by2 f p)), .int 1, .int 2, .int 4]) (rest := []) rfl rfl rfl (rd_several (x := (by2 f p))) (fun v4 M5 q6 => ?_)
          obtain ⟨rfl, rfl⟩ := q6
          show pl _ _ _ (43, [(5, .int (nI (by2 f p))), (0, .ref m0), (1, .int (nI p)), (2, .int (nI (by2 f pF))), (3, .int (nI f0)), (4, .int (nI k))], [.int (nI (sevN (by2 f p)))], M1) _
          refine ps_if (S1 := (84, [(0, .ref m0), (1, .int (nI p))], [], M1)) (S2 := (46, [(5, .int (nI (by2 f p))), (0, .ref m0), (1, .int (nI p)), (2, .int (nI (by2 f pF))), (3, .int (nI f0)), (4, .int (nI k))], [], M1)) rfl rfl rfl (fun c_43 => ?_) (fun c_43 => ?_)
          · have c_43 : ¬ (nI (sevN (by2 f p))) = 0 := of_decide_eq_true c_43
            have n_43 : ¬ (sevN (by2 f p) = 0) := fun h9 => c_43 ((eq_nI (p := sevN (by2 f p)) (n := 0) (Nat.lt_trans (le1_sev _) (by decide)) (by decide)).mpr h9)
            refine ps_st (S' := (85, [(0, .ref m0), (1, .int (nI p))], [.ref m0], M1)) rfl rfl rfl ?_
            refine ps_st (S' := (87, [(0, .ref m0), (1, .int (nI p))], [.int 19, .ref m0], M1)) rfl rfl rfl ?_
            refine ps_st (S' := (88, [(0, .ref m0), (1, .int (nI p))], [.int (nI p), .int 19, .ref m0], M1)) rfl rfl rfl ?_
            refine pl_call (a := [.ref m0, .int 19, .int (nI p)]) (rest := []) rfl rfl rfl (rd_wrong (x1 := 19) (x2 := (nI p)) hR1) (fun v7 M8 q9 => ?_)
            obtain ⟨I10, R11, rfl, hR12, hI13, hX14, hi15, hi16⟩ := q9
            have hi17 := (hI13 51 (by decide)).trans hl51
            have hi18 := (hI13 52 (by decide)).trans hl52
            have hi19 := (hI13 53 (by decide)).trans hl53
            have hi20 := (hI13 58 (by decide)).trans hl58
            have hi21 := (hI13 55 (by decide)).trans hl55
            have hi22 := (hI13 25 (by decide)).trans hl25
            have hF_23 := hF1.mono (cIx hI13 (by decide)) (cRx hX14 (by decide))
            have hY_24 := hY1.mono (cIx hI13 (by decide)) (cRx hX14 (by decide))
            have hP_25 := hP1.mono (cIx hI13 (by decide)) (cRx hX14 (by decide))
            have hK_26 := hK1.mono (cIx hI13 (by decide)) (cRx hX14 (by decide))
            have hN9_27 := hN91.mono (cIx hI13 (by decide)) (cRx hX14 (by decide))
            have hQ_28 := hQ1.mono (cIx hI13 (by decide)) (cRx hX14 (by decide))
            have hEI29 := hEI1.tr hI13 (by decide)
            have hER30 := hER1.tr hX14 (by decide)
            show pl _ _ _ (91, [(0, .ref m0), (1, .int (nI p))], [.int 0], M8) _
            exact ps_ret rfl rfl (Or.inr ⟨(19, p), I10, R11, by
                rw [← hs, flS_st (i := k) (by omega), ← hpk, fh_19 (by have e1 := ffl_0 cf (by2 f p); have e2 := sev_0 (by2 f p); have e3 := hall_80 (by2 f p); omega)], rfl, hR12, hEI29, hER30, hi15, hi16⟩)
          · have c_43 : ¬ (¬ (nI (sevN (by2 f p))) = 0) := of_decide_eq_false c_43
            have n_43 : sevN (by2 f p) = 0 := (eq_nI (p := sevN (by2 f p)) (n := 0) (Nat.lt_trans (le1_sev _) (by decide)) (by decide)).mp (Decidable.not_not.mp c_43)
            refine ps_st (S' := (48, [(5, .int (nI (by2 f p))), (0, .ref m0), (1, .int (nI p)), (2, .int (nI (by2 f pF))), (3, .int (nI f0)), (4, .int (nI k))], [.int (nI (by2 f p))], M1)) rfl rfl rfl ?_
            refine ps_st (S' := (50, [(5, .int (nI (by2 f p))), (0, .ref m0), (1, .int (nI p)), (2, .int (nI (by2 f pF))), (3, .int (nI f0)), (4, .int (nI k))], [.int 16, .int (nI (by2 f p))], M1)) rfl rfl rfl ?_
            refine ps_st (S' := (51, [(5, .int (nI (by2 f p))), (0, .ref m0), (1, .int (nI p)), (2, .int (nI (by2 f pF))), (3, .int (nI f0)), (4, .int (nI k))], [.int ((nI (by2 f p)) &&& 16)], M1)) rfl rfl rfl ?_
            rw [nI_an (p := by2 f p) (k := 16) (x := 16) rfl]
            show pl _ _ _ (_, [(5, .int (nI (by2 f p))), (0, .ref m0), (1, .int (nI p)), (2, .int (nI (by2 f pF))), (3, .int (nI f0)), (4, .int (nI k))], [.int (nI (aN (by2 f p) 16))], M1) _
            refine ps_if (S1 := (62, [(0, .ref m0), (1, .int (nI p)), (2, .int (nI (by2 f pF))), (3, .int (nI f0)), (4, .int (nI k)), (5, .int (nI (by2 f p)))], [], M1)) (S2 := (54, [(5, .int (nI (by2 f p))), (0, .ref m0), (1, .int (nI p)), (2, .int (nI (by2 f pF))), (3, .int (nI f0)), (4, .int (nI k))], [], M1)) rfl rfl rfl (fun c_51 => ?_) (fun c_51 => ?_)
            · have c_51 : (nI (aN (by2 f p) 16)) = 0 := of_decide_eq_true c_51
              have n_51 : aN (by2 f p) 16 = 0 := (eq_nI (p := aN (by2 f p) 16) (n := 0) (Nat.lt_of_le_of_lt (an_le _ _) (by decide)) (by decide)).mp c_51
              refine ps_st (S' := (63, [(0, .ref m0), (1, .int (nI p)), (2, .int (nI (by2 f pF))), (3, .int (nI f0)), (4, .int (nI k)), (5, .int (nI (by2 f p)))], [.ref m0], M1)) rfl rfl rfl ?_
              refine pr_int (j := 58) (S' := (66, [(0, .ref m0), (1, .int (nI p)), (2, .int (nI (by2 f pF))), (3, .int (nI f0)), (4, .int (nI k)), (5, .int (nI (by2 f p)))], [.int (nI cf)], M1)) rfl hR1 rfl hl58 rfl ?_
              refine ps_st (S' := (69, [(0, .ref m0), (1, .int (nI p)), (2, .int (nI (by2 f pF))), (3, .int (nI f0)), (4, .int (nI k)), (5, .int (nI (by2 f p)))], [.int 512, .int (nI cf)], M1)) rfl rfl rfl ?_
              refine ps_st (S' := (70, [(0, .ref m0), (1, .int (nI p)), (2, .int (nI (by2 f pF))), (3, .int (nI f0)), (4, .int (nI k)), (5, .int (nI (by2 f p)))], [.int ((nI cf) &&& 512)], M1)) rfl rfl rfl ?_
              rw [nI_an (p := cf) (k := 512) (x := 512) rfl]
              show pl _ _ _ (_, [(0, .ref m0), (1, .int (nI p)), (2, .int (nI (by2 f pF))), (3, .int (nI f0)), (4, .int (nI k)), (5, .int (nI (by2 f p)))], [.int (nI (aN cf 512))], M1) _
              refine ps_if (S1 := (92, [(0, .ref m0), (1, .int (nI p)), (2, .int (nI (by2 f pF))), (3, .int (nI f0)), (4, .int (nI k)), (5, .int (nI (by2 f p)))], [], M1)) (S2 := (73, [(0, .ref m0), (1, .int (nI p)), (2, .int (nI (by2 f pF))), (3, .int (nI f0)), (4, .int (nI k)), (5, .int (nI (by2 f p)))], [], M1)) rfl rfl rfl (fun c_70 => ?_) (fun c_70 => ?_)
              · have c_70 : (nI (aN cf 512)) = 0 := of_decide_eq_true c_70
                have n_70 : aN cf 512 = 0 := (eq_nI (p := aN cf 512) (n := 0) (Nat.lt_of_le_of_lt (an_le _ _) (by decide)) (by decide)).mp c_70
                refine ps_st (S' := (93, [(0, .ref m0), (1, .int (nI p)), (2, .int (nI (by2 f pF))), (3, .int (nI f0)), (4, .int (nI k)), (5, .int (nI (by2 f p)))], [.ref m0], M1)) rfl rfl rfl ?_
                refine ps_st (S' := (94, [(0, .ref m0), (1, .int (nI p)), (2, .int (nI (by2 f pF))), (3, .int (nI f0)), (4, .int (nI k)), (5, .int (nI (by2 f p)))], [.ref m0, .ref m0], M1)) rfl rfl rfl ?_
                refine ps_st (S' := (95, [(0, .ref m0), (1, .int (nI p)), (2, .int (nI (by2 f pF))), (3, .int (nI f0)), (4, .int (nI k)), (5, .int (nI (by2 f p)))], [.int (nI p), .ref m0, .ref m0], M1)) rfl rfl rfl ?_
                refine ps_st (S' := (96, [(0, .ref m0), (1, .int (nI p)), (2, .int (nI (by2 f pF))), (3, .int (nI f0)), (4, .int (nI k)), (5, .int (nI (by2 f p)))], [.int 2, .int (nI p), .ref m0, .ref m0], M1)) rfl rfl rfl ?_
                refine ps_st (S' := (97, [(0, .ref m0), (1, .int (nI p)), (2, .int (nI (by2 f pF))), (3, .int (nI f0)), (4, .int (nI k)), (5, .int (nI (by2 f p)))], [.int ((nI p) + 2), .ref m0, .ref m0], M1)) rfl rfl rfl ?_
                rw [nI_add1 (p := p) (k := 2) (x := 2) rfl (by omega)]
                show pl _ _ _ (_, [(0, .ref m0), (1, .int (nI p)), (2, .int (nI (by2 f pF))), (3, .int (nI f0)), (4, .int (nI k)), (5, .int (nI (by2 f p)))], [.int (nI (p + 2)), .ref m0, .ref m0], M1) _
                refine pl_call (a := [.ref m0, .int (nI (p + 2))]) (rest := [.ref m0]) rfl rfl rfl (rd_u2 (n := n) (f := f) (p := (p + 2)) hR1 hF1 (by omega)) (fun v31 M32 q33 => ?_)
                obtain ⟨rfl, rfl⟩ := q33
                show pl _ _ _ (100, [(0, .ref m0), (1, .int (nI p)), (2, .int (nI (by2 f pF))), (3, .int (nI f0)), (4, .int (nI k)), (5, .int (nI (by2 f p)))], [.int (nI (by2 f (p + 2))), .ref m0], M1) _
                have hu_97 := by2_lt f (p + 2)
                refine pl_call (a := [.ref m0, .int (nI (by2 f (p + 2)))]) (rest := []) rfl rfl rfl (rd_tag (n := n) (f := f) (tx := tx) (cN := cN) (A := A) (N := N) (mj := mj) (E := E) (k := (by2 f (p + 2))) hR1 hl51 hl52 hl53 hF1 hY1 hP1 (hEP) (hN) (hmj) (by2_lt _ _)) (fun v34 M35 q36 => ?_)
                obtain ⟨rfl, rfl⟩ := q36
                show pl _ _ _ (103, [(0, .ref m0), (1, .int (nI p)), (2, .int (nI (by2 f pF))), (3, .int (nI f0)), (4, .int (nI k)), (5, .int (nI (by2 f p)))], [.int (nI (tg f E (by2 f (p + 2))))], M1) _
                have htg_100 := tg_lt f E (by2 f (p + 2))
                refine ps_st (S' := (104, [(0, .ref m0), (1, .int (nI p)), (2, .int (nI (by2 f pF))), (3, .int (nI f0)), (4, .int (nI k)), (5, .int (nI (by2 f p)))], [.int 1, .int (nI (tg f E (by2 f (p + 2))))], M1)) rfl rfl rfl ?_
                refine ps_if2 (S1 := (126, [(0, .ref m0), (1, .int (nI p))], [], M1)) (S2 := (107, [(0, .ref m0), (1, .int (nI p)), (2, .int (nI (by2 f pF))), (3, .int (nI f0)), (4, .int (nI k)), (5, .int (nI (by2 f p)))], [], M1)) rfl rfl rfl (fun c_104 => ?_) (fun c_104 => ?_)
                · have c_104 : ¬ (nI (tg f E (by2 f (p + 2)))) = 1 := of_decide_eq_true c_104
                  have n_104 : ¬ (tg f E (by2 f (p + 2)) = 1) := fun h9 => c_104 ((eq_nI (p := tg f E (by2 f (p + 2))) (n := 1) (Nat.lt_trans (tg_lt _ _ _) (by decide)) (by decide)).mpr h9)
                  refine ps_st (S' := (127, [(0, .ref m0), (1, .int (nI p))], [.ref m0], M1)) rfl rfl rfl ?_
                  refine ps_st (S' := (129, [(0, .ref m0), (1, .int (nI p))], [.int 20, .ref m0], M1)) rfl rfl rfl ?_
                  refine ps_st (S' := (130, [(0, .ref m0), (1, .int (nI p))], [.int (nI p), .int 20, .ref m0], M1)) rfl rfl rfl ?_
                  refine ps_st (S' := (131, [(0, .ref m0), (1, .int (nI p))], [.int 2, .int (nI p), .int 20, .ref m0], M1)) rfl rfl rfl ?_
                  refine ps_st (S' := (132, [(0, .ref m0), (1, .int (nI p))], [.int ((nI p) + 2), .int 20, .ref m0], M1)) rfl rfl rfl ?_
                  rw [nI_add1 (p := p) (k := 2) (x := 2) rfl (by omega)]
                  show pl _ _ _ (_, [(0, .ref m0), (1, .int (nI p))], [.int (nI (p + 2)), .int 20, .ref m0], M1) _
                  refine pl_call (a := [.ref m0, .int 20, .int (nI (p + 2))]) (rest := []) rfl rfl rfl (rd_wrong (x1 := 20) (x2 := (nI (p + 2))) hR1) (fun v37 M38 q39 => ?_)
                  obtain ⟨I40, R41, rfl, hR42, hI43, hX44, hi45, hi46⟩ := q39
                  have hi47 := (hI43 51 (by decide)).trans hl51
                  have hi48 := (hI43 52 (by decide)).trans hl52
                  have hi49 := (hI43 53 (by decide)).trans hl53
                  have hi50 := (hI43 58 (by decide)).trans hl58
                  have hi54 := (hI43 55 (by decide)).trans hl55
                  have hi56 := (hI43 25 (by decide)).trans hl25
                  have hF_57 := hF1.mono (cIx hI43 (by decide)) (cRx hX44 (by decide))
                  have hY_58 := hY1.mono (cIx hI43 (by decide)) (cRx hX44 (by decide))
                  have hP_59 := hP1.mono (cIx hI43 (by decide)) (cRx hX44 (by decide))
                  have hK_60 := hK1.mono (cIx hI43 (by decide)) (cRx hX44 (by decide))
                  have hN9_61 := hN91.mono (cIx hI43 (by decide)) (cRx hX44 (by decide))
                  have hQ_62 := hQ1.mono (cIx hI43 (by decide)) (cRx hX44 (by decide))
                  have hEI63 := hEI1.tr hI43 (by decide)
                  have hER64 := hER1.tr hX44 (by decide)
                  show pl _ _ _ (135, [(0, .ref m0), (1, .int (nI p))], [.int 0], M38) _
                  exact ps_ret rfl rfl (Or.inr ⟨(20, p + 2), I40, R41, by
                      rw [← hs, flS_st (i := k) (by omega), ← hpk, fh_20 (by have e1 := ffl_0 cf (by2 f p); have e2 := sev_0 (by2 f p); have e3 := hall_80 (by2 f p); omega) (by rw [tx_no (by omega)]; decide)], rfl, hR42, hEI63, hER64, hi45, hi46⟩)
                · have c_104 : ¬ (¬ (nI (tg f E (by2 f (p + 2)))) = 1) := of_decide_eq_false c_104
                  have n_104 : tg f E (by2 f (p + 2)) = 1 := (eq_nI (p := tg f E (by2 f (p + 2))) (n := 1) (Nat.lt_trans (tg_lt _ _ _) (by decide)) (by decide)).mp (Decidable.not_not.mp c_104)
                  refine ps_st (S' := (108, [(0, .ref m0), (1, .int (nI p)), (2, .int (nI (by2 f pF))), (3, .int (nI f0)), (4, .int (nI k)), (5, .int (nI (by2 f p)))], [.ref m0], M1)) rfl rfl rfl ?_
                  refine ps_st (S' := (109, [(0, .ref m0), (1, .int (nI p)), (2, .int (nI (by2 f pF))), (3, .int (nI f0)), (4, .int (nI k)), (5, .int (nI (by2 f p)))], [.ref m0, .ref m0], M1)) rfl rfl rfl ?_
                  refine ps_st (S' := (110, [(0, .ref m0), (1, .int (nI p)), (2, .int (nI (by2 f pF))), (3, .int (nI f0)), (4, .int (nI k)), (5, .int (nI (by2 f p)))], [.ref m0, .ref m0, .ref m0], M1)) rfl rfl rfl ?_
                  refine ps_st (S' := (111, [(0, .ref m0), (1, .int (nI p)), (2, .int (nI (by2 f pF))), (3, .int (nI f0)), (4, .int (nI k)), (5, .int (nI (by2 f p)))], [.int (nI p), .ref m0, .ref m0, .ref m0], M1)) rfl rfl rfl ?_
                  refine ps_st (S' := (112, [(0, .ref m0), (1, .int (nI p)), (2, .int (nI (by2 f pF))), (3, .int (nI f0)), (4, .int (nI k)), (5, .int (nI (by2 f p)))], [.int 2, .int (nI p), .ref m0, .ref m0, .ref m0], M1)) rfl rfl rfl ?_
                  refine ps_st (S' := (113, [(0, .ref m0), (1, .int (nI p)), (2, .int (nI (by2 f pF))), (3, .int (nI f0)), (4, .int (nI k)), (5, .int (nI (by2 f p)))], [.int ((nI p) + 2), .ref m0, .ref m0, .ref m0], M1)) rfl rfl rfl ?_
                  rw [nI_add1 (p := p) (k := 2) (x := 2) rfl (by omega)]
                  show pl _ _ _ (_, [(0, .ref m0), (1, .int (nI p)), (2, .int (nI (by2 f pF))), (3, .int (nI f0)), (4, .int (nI k)), (5, .int (nI (by2 f p)))], [.int (nI (p + 2)), .ref m0, .ref m0, .ref m0], M1) _
                  refine pl_call (a := [.ref m0, .int (nI (p + 2))]) (rest := [.ref m0, .ref m0]) rfl rfl rfl (rd_u2 (n := n) (f := f) (p := (p + 2)) hR1 hF1 (by omega)) (fun v65 M66 q67 => ?_)
                  obtain ⟨rfl, rfl⟩ := q67
                  show pl _ _ _ (116, [(0, .ref m0), (1, .int (nI p)), (2, .int (nI (by2 f pF))), (3, .int (nI f0)), (4, .int (nI k)), (5, .int (nI (by2 f p)))], [.int (nI (by2 f (p + 2))), .ref m0, .ref m0], M1) _
                  have hu_113 := by2_lt f (p + 2)
                  refine pl_call (a := [.ref m0, .int (nI (by2 f (p + 2)))]) (rest := [.ref m0]) rfl rfl rfl (rd_symOf (n := n) (f := f) (tx := tx) (cN := cN) (A := A) (N := N) (mj := mj) (E := E) (k := (by2 f (p + 2))) hR1 hl51 hl52 hl53 hF1 hY1 hP1 (hEP) (hN) (hmj) (by omega)) (fun v68 M69 q70 => ?_)
                  obtain ⟨s71, q116_s, rfl, rfl⟩ := q70
                  show pl _ _ _ (119, [(0, .ref m0), (1, .int (nI p)), (2, .int (nI (by2 f pF))), (3, .int (nI f0)), (4, .int (nI k)), (5, .int (nI (by2 f p)))], [.int (nI s71), .ref m0], M1) _
                  have hsl_116 := q116_s.1
                  have htl_116 := hY1.1.2.2.1
                  refine ps_st (S' := (120, [(0, .ref m0), (1, .int (nI p)), (2, .int (nI (by2 f pF))), (3, .int (nI f0)), (4, .int (nI k)), (5, .int (nI (by2 f p)))], [.int 1, .int (nI s71), .ref m0], M1)) rfl rfl rfl ?_
                  refine pl_call (a := [.ref m0, .int (nI s71), .int 1]) (rest := []) rfl rfl rfl (rd_unq1 (tx := tx) (cN := cN) (A := A) (s := s71) (l := (tX f n E (by2 f (p + 2)))) hR1 hY1 (q116_s)) (fun v72 M73 q74 => ?_)
                  obtain ⟨rfl, rfl⟩ := q74
                  show pl _ _ _ (123, [(0, .ref m0), (1, .int (nI p)), (2, .int (nI (by2 f pF))), (3, .int (nI f0)), (4, .int (nI k)), (5, .int (nI (by2 f p)))], [.int (nI (unqN (tX f n E (by2 f (p + 2)))))], M1) _
                  refine ps_if (S1 := (136, [(0, .ref m0), (1, .int (nI p)), (2, .int (nI (by2 f pF))), (3, .int (nI f0)), (4, .int (nI k)), (5, .int (nI (by2 f p)))], [], M1)) (S2 := (126, [(0, .ref m0), (1, .int (nI p))], [], M1)) rfl rfl rfl (fun c_123 => ?_) (fun c_123 => ?_)
                  · have c_123 : ¬ (nI (unqN (tX f n E (by2 f (p + 2))))) = 0 := of_decide_eq_true c_123
                    have n_123 : ¬ (unqN (tX f n E (by2 f (p + 2))) = 0) := fun h9 => c_123 ((eq_nI (p := unqN (tX f n E (by2 f (p + 2)))) (n := 0) (Nat.lt_trans (le1_unq _) (by decide)) (by decide)).mpr h9)
                    refine ps_st (S' := (137, [(0, .ref m0), (1, .int (nI p)), (2, .int (nI (by2 f pF))), (3, .int (nI f0)), (4, .int (nI k)), (5, .int (nI (by2 f p)))], [.ref m0], M1)) rfl rfl rfl ?_
                    refine ps_st (S' := (138, [(0, .ref m0), (1, .int (nI p)), (2, .int (nI (by2 f pF))), (3, .int (nI f0)), (4, .int (nI k)), (5, .int (nI (by2 f p)))], [.ref m0, .ref m0], M1)) rfl rfl rfl ?_
                    refine ps_st (S' := (139, [(0, .ref m0), (1, .int (nI p)), (2, .int (nI (by2 f pF))), (3, .int (nI f0)), (4, .int (nI k)), (5, .int (nI (by2 f p)))], [.int (nI p), .ref m0, .ref m0], M1)) rfl rfl rfl ?_
                    refine ps_st (S' := (140, [(0, .ref m0), (1, .int (nI p)), (2, .int (nI (by2 f pF))), (3, .int (nI f0)), (4, .int (nI k)), (5, .int (nI (by2 f p)))], [.int 4, .int (nI p), .ref m0, .ref m0], M1)) rfl rfl rfl ?_
                    refine ps_st (S' := (141, [(0, .ref m0), (1, .int (nI p)), (2, .int (nI (by2 f pF))), (3, .int (nI f0)), (4, .int (nI k)), (5, .int (nI (by2 f p)))], [.int ((nI p) + 4), .ref m0, .ref m0], M1)) rfl rfl rfl ?_
                    rw [nI_add1 (p := p) (k := 4) (x := 4) rfl (by omega)]
                    show pl _ _ _ (_, [(0, .ref m0), (1, .int (nI p)), (2, .int (nI (by2 f pF))), (3, .int (nI f0)), (4, .int (nI k)), (5, .int (nI (by2 f p)))], [.int (nI (p + 4)), .ref m0, .ref m0], M1) _
                    refine pl_call (a := [.ref m0, .int (nI (p + 4))]) (rest := [.ref m0]) rfl rfl rfl (rd_u2 (n := n) (f := f) (p := (p + 4)) hR1 hF1 (by omega)) (fun v75 M76 q77 => ?_)
                    obtain ⟨rfl, rfl⟩ := q77
                    show pl _ _ _ (144, [(0, .ref m0), (1, .int (nI p)), (2, .int (nI (by2 f pF))), (3, .int (nI f0)), (4, .int (nI k)), (5, .int (nI (by2 f p)))], [.int (nI (by2 f (p + 4))), .ref m0], M1) _
                    have hu_141 := by2_lt f (p + 4)
                    refine pl_call (a := [.ref m0, .int (nI (by2 f (p + 4)))]) (rest := []) rfl rfl rfl (rd_tag (n := n) (f := f) (tx := tx) (cN := cN) (A := A) (N := N) (mj := mj) (E := E) (k := (by2 f (p + 4))) hR1 hl51 hl52 hl53 hF1 hY1 hP1 (hEP) (hN) (hmj) (by2_lt _ _)) (fun v78 M79 q80 => ?_)
                    obtain ⟨rfl, rfl⟩ := q80
                    show pl _ _ _ (147, [(0, .ref m0), (1, .int (nI p)), (2, .int (nI (by2 f pF))), (3, .int (nI f0)), (4, .int (nI k)), (5, .int (nI (by2 f p)))], [.int (nI (tg f E (by2 f (p + 4))))], M1) _
                    have htg_144 := tg_lt f E (by2 f (p + 4))
                    refine ps_st (S' := (148, [(0, .ref m0), (1, .int (nI p)), (2, .int (nI (by2 f pF))), (3, .int (nI f0)), (4, .int (nI k)), (5, .int (nI (by2 f p)))], [.int 1, .int (nI (tg f E (by2 f (p + 4))))], M1)) rfl rfl rfl ?_
                    refine ps_if2 (S1 := (169, [(0, .ref m0), (1, .int (nI p))], [], M1)) (S2 := (151, [(0, .ref m0), (1, .int (nI p)), (2, .int (nI (by2 f pF))), (3, .int (nI f0)), (4, .int (nI k)), (5, .int (nI (by2 f p)))], [], M1)) rfl rfl rfl (fun c_148 => ?_) (fun c_148 => ?_)
                    · have c_148 : ¬ (nI (tg f E (by2 f (p + 4)))) = 1 := of_decide_eq_true c_148
                      have n_148 : ¬ (tg f E (by2 f (p + 4)) = 1) := fun h9 => c_148 ((eq_nI (p := tg f E (by2 f (p + 4))) (n := 1) (Nat.lt_trans (tg_lt _ _ _) (by decide)) (by decide)).mpr h9)
                      refine ps_st (S' := (170, [(0, .ref m0), (1, .int (nI p))], [.ref m0], M1)) rfl rfl rfl ?_
                      refine ps_st (S' := (172, [(0, .ref m0), (1, .int (nI p))], [.int 21, .ref m0], M1)) rfl rfl rfl ?_
                      refine ps_st (S' := (173, [(0, .ref m0), (1, .int (nI p))], [.int (nI p), .int 21, .ref m0], M1)) rfl rfl rfl ?_
                      refine ps_st (S' := (174, [(0, .ref m0), (1, .int (nI p))], [.int 4, .int (nI p), .int 21, .ref m0], M1)) rfl rfl rfl ?_
                      refine ps_st (S' := (175, [(0, .ref m0), (1, .int (nI p))], [.int ((nI p) + 4), .int 21, .ref m0], M1)) rfl rfl rfl ?_
                      rw [nI_add1 (p := p) (k := 4) (x := 4) rfl (by omega)]
                      show pl _ _ _ (_, [(0, .ref m0), (1, .int (nI p))], [.int (nI (p + 4)), .int 21, .ref m0], M1) _
                      refine pl_call (a := [.ref m0, .int 21, .int (nI (p + 4))]) (rest := []) rfl rfl rfl (rd_wrong (x1 := 21) (x2 := (nI (p + 4))) hR1) (fun v81 M82 q83 => ?_)
                      obtain ⟨I84, R85, rfl, hR86, hI87, hX88, hi89, hi90⟩ := q83
                      have hi91 := (hI87 51 (by decide)).trans hl51
                      have hi92 := (hI87 52 (by decide)).trans hl52
                      have hi93 := (hI87 53 (by decide)).trans hl53
                      have hi94 := (hI87 58 (by decide)).trans hl58
                      have hi95 := (hI87 55 (by decide)).trans hl55
                      have hi96 := (hI87 25 (by decide)).trans hl25
                      have hF_97 := hF1.mono (cIx hI87 (by decide)) (cRx hX88 (by decide))
                      have hY_98 := hY1.mono (cIx hI87 (by decide)) (cRx hX88 (by decide))
                      have hP_99 := hP1.mono (cIx hI87 (by decide)) (cRx hX88 (by decide))
                      have hK_100 := hK1.mono (cIx hI87 (by decide)) (cRx hX88 (by decide))
                      have hN9_101 := hN91.mono (cIx hI87 (by decide)) (cRx hX88 (by decide))
                      have hQ_102 := hQ1.mono (cIx hI87 (by decide)) (cRx hX88 (by decide))
                      have hEI103 := hEI1.tr hI87 (by decide)
                      have hER104 := hER1.tr hX88 (by decide)
                      show pl _ _ _ (178, [(0, .ref m0), (1, .int (nI p))], [.int 0], M82) _
                      exact ps_ret rfl rfl (Or.inr ⟨(21, p + 4), I84, R85, by
                          rw [← hs, flS_st (i := k) (by omega), ← hpk, fh_21 (by have e1 := ffl_0 cf (by2 f p); have e2 := sev_0 (by2 f p); have e3 := hall_80 (by2 f p); omega) (by omega) (by rw [tx_no (by omega)]; decide)], rfl, hR86, hEI103, hER104, hi89, hi90⟩)
                    · have c_148 : ¬ (¬ (nI (tg f E (by2 f (p + 4)))) = 1) := of_decide_eq_false c_148
                      have n_148 : tg f E (by2 f (p + 4)) = 1 := (eq_nI (p := tg f E (by2 f (p + 4))) (n := 1) (Nat.lt_trans (tg_lt _ _ _) (by decide)) (by decide)).mp (Decidable.not_not.mp c_148)
                      refine ps_st (S' := (152, [(0, .ref m0), (1, .int (nI p)), (2, .int (nI (by2 f pF))), (3, .int (nI f0)), (4, .int (nI k)), (5, .int (nI (by2 f p)))], [.ref m0], M1)) rfl rfl rfl ?_
                      refine ps_st (S' := (153, [(0, .ref m0), (1, .int (nI p)), (2, .int (nI (by2 f pF))), (3, .int (nI f0)), (4, .int (nI k)), (5, .int (nI (by2 f p)))], [.ref m0, .ref m0], M1)) rfl rfl rfl ?_
                      refine ps_st (S' := (154, [(0, .ref m0), (1, .int (nI p)), (2, .int (nI (by2 f pF))), (3, .int (nI f0)), (4, .int (nI k)), (5, .int (nI (by2 f p)))], [.ref m0, .ref m0, .ref m0], M1)) rfl rfl rfl ?_
                      refine ps_st (S' := (155, [(0, .ref m0), (1, .int (nI p)), (2, .int (nI (by2 f pF))), (3, .int (nI f0)), (4, .int (nI k)), (5, .int (nI (by2 f p)))], [.int (nI p), .ref m0, .ref m0, .ref m0], M1)) rfl rfl rfl ?_
                      refine ps_st (S' := (156, [(0, .ref m0), (1, .int (nI p)), (2, .int (nI (by2 f pF))), (3, .int (nI f0)), (4, .int (nI k)), (5, .int (nI (by2 f p)))], [.int 4, .int (nI p), .ref m0, .ref m0, .ref m0], M1)) rfl rfl rfl ?_
                      refine ps_st (S' := (157, [(0, .ref m0), (1, .int (nI p)), (2, .int (nI (by2 f pF))), (3, .int (nI f0)), (4, .int (nI k)), (5, .int (nI (by2 f p)))], [.int ((nI p) + 4), .ref m0, .ref m0, .ref m0], M1)) rfl rfl rfl ?_
                      rw [nI_add1 (p := p) (k := 4) (x := 4) rfl (by omega)]
                      show pl _ _ _ (_, [(0, .ref m0), (1, .int (nI p)), (2, .int (nI (by2 f pF))), (3, .int (nI f0)), (4, .int (nI k)), (5, .int (nI (by2 f p)))], [.int (nI (p + 4)), .ref m0, .ref m0, .ref m0], M1) _
                      refine pl_call (a := [.ref m0, .int (nI (p + 4))]) (rest := [.ref m0, .ref m0]) rfl rfl rfl (rd_u2 (n := n) (f := f) (p := (p + 4)) hR1 hF1 (by omega)) (fun v105 M106 q107 => ?_)
                      obtain ⟨rfl, rfl⟩ := q107
                      show pl _ _ _ (160, [(0, .ref m0), (1, .int (nI p)), (2, .int (nI (by2 f pF))), (3, .int (nI f0)), (4, .int (nI k)), (5, .int (nI (by2 f p)))], [.int (nI (by2 f (p + 4))), .ref m0, .ref m0], M1) _
                      have hu_157 := by2_lt f (p + 4)
                      refine pl_call (a := [.ref m0, .int (nI (by2 f (p + 4)))]) (rest := [.ref m0]) rfl rfl rfl (rd_symOf (n := n) (f := f) (tx := tx) (cN := cN) (A := A) (N := N) (mj := mj) (E := E) (k := (by2 f (p + 4))) hR1 hl51 hl52 hl53 hF1 hY1 hP1 (hEP) (hN) (hmj) (by omega)) (fun v108 M109 q110 => ?_)
                      obtain ⟨s111, q160_s, rfl, rfl⟩ := q110
                      show pl _ _ _ (163, [(0, .ref m0), (1, .int (nI p)), (2, .int (nI (by2 f pF))), (3, .int (nI f0)), (4, .int (nI k)), (5, .int (nI (by2 f p)))], [.int (nI s111), .ref m0], M1) _
                      have hsl_160 := q160_s.1
                      have htl_160 := hY1.1.2.2.1
                      refine pl_call (a := [.ref m0, .int (nI s111)]) (rest := []) rfl rfl rfl (rd_isField (tx := tx) (cN := cN) (A := A) (s := s111) (l := (tX f n E (by2 f (p + 4)))) hR1 hY1 (q160_s)) (fun v112 M113 q114 => ?_)
                      obtain ⟨rfl, rfl⟩ := q114
                      show pl _ _ _ (166, [(0, .ref m0), (1, .int (nI p)), (2, .int (nI (by2 f pF))), (3, .int (nI f0)), (4, .int (nI k)), (5, .int (nI (by2 f p)))], [.int (nI (fldN (tX f n E (by2 f (p + 4)))))], M1) _
                      refine ps_if (S1 := (179, [(0, .ref m0), (1, .int (nI p)), (2, .int (nI (by2 f pF))), (3, .int (nI f0)), (4, .int (nI k)), (5, .int (nI (by2 f p)))], [], M1)) (S2 := (169, [(0, .ref m0), (1, .int (nI p))], [], M1)) rfl rfl rfl (fun c_166 => ?_) (fun c_166 => ?_)
                      · have c_166 : ¬ (nI (fldN (tX f n E (by2 f (p + 4))))) = 0 := of_decide_eq_true c_166
                        have n_166 : ¬ (fldN (tX f n E (by2 f (p + 4))) = 0) := fun h9 => c_166 ((eq_nI (p := fldN (tX f n E (by2 f (p + 4)))) (n := 0) (Nat.lt_trans (le1_fld _) (by decide)) (by decide)).mpr h9)
                        refine ps_st (S' := (180, [(0, .ref m0), (1, .int (nI p)), (2, .int (nI (by2 f pF))), (3, .int (nI f0)), (4, .int (nI k)), (5, .int (nI (by2 f p)))], [.ref m0], M1)) rfl rfl rfl ?_
                        refine pr_int (j := 25) (S' := (183, [(0, .ref m0), (1, .int (nI p)), (2, .int (nI (by2 f pF))), (3, .int (nI f0)), (4, .int (nI k)), (5, .int (nI (by2 f p)))], [.int (nI (f0 + k))], M1)) rfl hR1 rfl hl25 rfl ?_
                        refine ps_st (S' := (185, [(6, .int (nI (f0 + k))), (0, .ref m0), (1, .int (nI p)), (2, .int (nI (by2 f pF))), (3, .int (nI f0)), (4, .int (nI k)), (5, .int (nI (by2 f p)))], [], M1)) rfl rfl rfl ?_
                        refine ps_st (S' := (186, [(6, .int (nI (f0 + k))), (0, .ref m0), (1, .int (nI p)), (2, .int (nI (by2 f pF))), (3, .int (nI f0)), (4, .int (nI k)), (5, .int (nI (by2 f p)))], [.ref m0], M1)) rfl rfl rfl ?_
                        refine pr_ref (j := 27) (S' := (189, [(6, .int (nI (f0 + k))), (0, .ref m0), (1, .int (nI p)), (2, .int (nI (by2 f pF))), (3, .int (nI f0)), (4, .int (nI k)), (5, .int (nI (by2 f p)))], [.ref (q 27)], M1)) rfl hR1 rfl rfl ?_
                        refine ps_st (S' := (191, [(6, .int (nI (f0 + k))), (0, .ref m0), (1, .int (nI p)), (2, .int (nI (by2 f pF))), (3, .int (nI f0)), (4, .int (nI k)), (5, .int (nI (by2 f p)))], [.int (nI (f0 + k)), .ref (q 27)], M1)) rfl rfl rfl ?_
                        refine ps_st (S' := (193, [(6, .int (nI (f0 + k))), (0, .ref m0), (1, .int (nI p)), (2, .int (nI (by2 f pF))), (3, .int (nI f0)), (4, .int (nI k)), (5, .int (nI (by2 f p)))], [.int (nI (by2 f p)), .int (nI (f0 + k)), .ref (q 27)], M1)) rfl rfl rfl ?_
                        refine pr_st (a := 27) (j := f0 + k) rfl hR1 rfl (by omega) (fun M115 R116 i1_193 hR117 hS118 => ?_)
                        have hF_119 := hF1.mono (fun _ _ => rfl) (rRx hS118 (by decide))
                        have hY_120 := hY1.mono (fun _ _ => rfl) (rRx hS118 (by decide))
                        have hP_121 := hP1.mono (fun _ _ => rfl) (rRx hS118 (by decide))
                        have hK_122 := hK1.mono (fun _ _ => rfl) (rRx hS118 (by decide))
                        have hN9_123 := hN91.mono (fun _ _ => rfl) (rRx hS118 (by decide))
                        have hER124 := hER1.st hS118 (by decide)
                        show pl _ _ _ (194, [(6, .int (nI (f0 + k))), (0, .ref m0), (1, .int (nI p)), (2, .int (nI (by2 f pF))), (3, .int (nI f0)), (4, .int (nI k)), (5, .int (nI (by2 f p)))], [], M115) _
                        have c27_125 : CE 27 (f0 + k) (nI (by2 f p)) I1 R116 := CE.st hS118
                        have hQ_126 := FQ.st (I' := I1) hQ1 hS118 rfl
                        refine ps_st (S' := (195, [(6, .int (nI (f0 + k))), (0, .ref m0), (1, .int (nI p)), (2, .int (nI (by2 f pF))), (3, .int (nI f0)), (4, .int (nI k)), (5, .int (nI (by2 f p)))], [.ref m0], M115)) rfl rfl rfl ?_
                        refine pr_ref (j := 28) (S' := (198, [(6, .int (nI (f0 + k))), (0, .ref m0), (1, .int (nI p)), (2, .int (nI (by2 f pF))), (3, .int (nI f0)), (4, .int (nI k)), (5, .int (nI (by2 f p)))], [.ref (q 28)], M115)) rfl hR117 rfl rfl ?_
                        refine ps_st (S' := (200, [(6, .int (nI (f0 + k))), (0, .ref m0), (1, .int (nI p)), (2, .int (nI (by2 f pF))), (3, .int (nI f0)), (4, .int (nI k)), (5, .int (nI (by2 f p)))], [.int (nI (f0 + k)), .ref (q 28)], M115)) rfl rfl rfl ?_
                        refine ps_st (S' := (201, [(6, .int (nI (f0 + k))), (0, .ref m0), (1, .int (nI p)), (2, .int (nI (by2 f pF))), (3, .int (nI f0)), (4, .int (nI k)), (5, .int (nI (by2 f p)))], [.ref m0, .int (nI (f0 + k)), .ref (q 28)], M115)) rfl rfl rfl ?_
                        refine ps_st (S' := (202, [(6, .int (nI (f0 + k))), (0, .ref m0), (1, .int (nI p)), (2, .int (nI (by2 f pF))), (3, .int (nI f0)), (4, .int (nI k)), (5, .int (nI (by2 f p)))], [.ref m0, .ref m0, .int (nI (f0 + k)), .ref (q 28)], M115)) rfl rfl rfl ?_
                        refine ps_st (S' := (203, [(6, .int (nI (f0 + k))), (0, .ref m0), (1, .int (nI p)), (2, .int (nI (by2 f pF))), (3, .int (nI f0)), (4, .int (nI k)), (5, .int (nI (by2 f p)))], [.int (nI p), .ref m0, .ref m0, .int (nI (f0 + k)), .ref (q 28)], M115)) rfl rfl rfl ?_
                        refine ps_st (S' := (204, [(6, .int (nI (f0 + k))), (0, .ref m0), (1, .int (nI p)), (2, .int (nI (by2 f pF))), (3, .int (nI f0)), (4, .int (nI k)), (5, .int (nI (by2 f p)))], [.int 2, .int (nI p), .ref m0, .ref m0, .int (nI (f0 + k)), .ref (q 28)], M115)) rfl rfl rfl ?_
                        refine ps_st (S' := (205, [(6, .int (nI (f0 + k))), (0, .ref m0), (1, .int (nI p)), (2, .int (nI (by2 f pF))), (3, .int (nI f0)), (4, .int (nI k)), (5, .int (nI (by2 f p)))], [.int ((nI p) + 2), .ref m0, .ref m0, .int (nI (f0 + k)), .ref (q 28)], M115)) rfl rfl rfl ?_
                        rw [nI_add1 (p := p) (k := 2) (x := 2) rfl (by omega)]
                        show pl _ _ _ (_, [(6, .int (nI (f0 + k))), (0, .ref m0), (1, .int (nI p)), (2, .int (nI (by2 f pF))), (3, .int (nI f0)), (4, .int (nI k)), (5, .int (nI (by2 f p)))], [.int (nI (p + 2)), .ref m0, .ref m0, .int (nI (f0 + k)), .ref (q 28)], M115) _
                        refine pl_call (a := [.ref m0, .int (nI (p + 2))]) (rest := [.ref m0, .int (nI (f0 + k)), .ref (q 28)]) rfl rfl rfl (rd_u2 (n := n) (f := f) (p := (p + 2)) hR117 hF_119 (by omega)) (fun v127 M128 q129 => ?_)
                        obtain ⟨rfl, rfl⟩ := q129
                        show pl _ _ _ (208, [(6, .int (nI (f0 + k))), (0, .ref m0), (1, .int (nI p)), (2, .int (nI (by2 f pF))), (3, .int (nI f0)), (4, .int (nI k)), (5, .int (nI (by2 f p)))], [.int (nI (by2 f (p + 2))), .ref m0, .int (nI (f0 + k)), .ref (q 28)], M115) _
                        have hu_205 := by2_lt f (p + 2)
                        refine pl_call (a := [.ref m0, .int (nI (by2 f (p + 2)))]) (rest := [.int (nI (f0 + k)), .ref (q 28)]) rfl rfl rfl (rd_symOf (n := n) (f := f) (tx := tx) (cN := cN) (A := A) (N := N) (mj := mj) (E := E) (k := (by2 f (p + 2))) hR117 hl51 hl52 hl53 hF_119 hY_120 hP_121 (hEP) (hN) (hmj) (by omega)) (fun v130 M131 q132 => ?_)
                        obtain ⟨s133, q208_s, rfl, rfl⟩ := q132
                        show pl _ _ _ (211, [(6, .int (nI (f0 + k))), (0, .ref m0), (1, .int (nI p)), (2, .int (nI (by2 f pF))), (3, .int (nI f0)), (4, .int (nI k)), (5, .int (nI (by2 f p)))], [.int (nI s133), .int (nI (f0 + k)), .ref (q 28)], M115) _
                        have hsl_208 := q208_s.1
                        have htl_208 := hY_120.1.2.2.1
                        refine pr_st (a := 28) (j := f0 + k) rfl hR117 rfl (by omega) (fun M134 R135 i1_211 hR136 hS137 => ?_)
                        have hF_138 := hF_119.mono (fun _ _ => rfl) (rRx hS137 (by decide))
                        have hY_139 := hY_120.mono (fun _ _ => rfl) (rRx hS137 (by decide))
                        have hP_140 := hP_121.mono (fun _ _ => rfl) (rRx hS137 (by decide))
                        have hK_141 := hK_122.mono (fun _ _ => rfl) (rRx hS137 (by decide))
                        have c27_142 := c27_125.mono (fun _ _ => rfl) (rRx hS137 (by decide))
                        have hQ_143 := hQ_126.mono (fun _ _ => rfl) (rRx hS137 (by decide))
                        have hER144 := hER124.st hS137 (by decide)
                        show pl _ _ _ (212, [(6, .int (nI (f0 + k))), (0, .ref m0), (1, .int (nI p)), (2, .int (nI (by2 f pF))), (3, .int (nI f0)), (4, .int (nI k)), (5, .int (nI (by2 f p)))], [], M134) _
                        have c28_145 : CE 28 (f0 + k) (nI s133) I1 R135 := CE.st hS137
                        have hN9_146 := FN.st (I' := I1) hN9_123 hS137 rfl
                        refine ps_st (S' := (213, [(6, .int (nI (f0 + k))), (0, .ref m0), (1, .int (nI p)), (2, .int (nI (by2 f pF))), (3, .int (nI f0)), (4, .int (nI k)), (5, .int (nI (by2 f p)))], [.ref m0], M134)) rfl rfl rfl ?_
                        refine pr_ref (j := 29) (S' := (216, [(6, .int (nI (f0 + k))), (0, .ref m0), (1, .int (nI p)), (2, .int (nI (by2 f pF))), (3, .int (nI f0)), (4, .int (nI k)), (5, .int (nI (by2 f p)))], [.ref (q 29)], M134)) rfl hR136 rfl rfl ?_
                        refine ps_st (S' := (218, [(6, .int (nI (f0 + k))), (0, .ref m0), (1, .int (nI p)), (2, .int (nI (by2 f pF))), (3, .int (nI f0)), (4, .int (nI k)), (5, .int (nI (by2 f p)))], [.int (nI (f0 + k)), .ref (q 29)], M134)) rfl rfl rfl ?_
                        refine ps_st (S' := (219, [(6, .int (nI (f0 + k))), (0, .ref m0), (1, .int (nI p)), (2, .int (nI (by2 f pF))), (3, .int (nI f0)), (4, .int (nI k)), (5, .int (nI (by2 f p)))], [.ref m0, .int (nI (f0 + k)), .ref (q 29)], M134)) rfl rfl rfl ?_
                        refine ps_st (S' := (220, [(6, .int (nI (f0 + k))), (0, .ref m0), (1, .int (nI p)), (2, .int (nI (by2 f pF))), (3, .int (nI f0)), (4, .int (nI k)), (5, .int (nI (by2 f p)))], [.ref m0, .ref m0, .int (nI (f0 + k)), .ref (q 29)], M134)) rfl rfl rfl ?_
                        refine ps_st (S' := (221, [(6, .int (nI (f0 + k))), (0, .ref m0), (1, .int (nI p)), (2, .int (nI (by2 f pF))), (3, .int (nI f0)), (4, .int (nI k)), (5, .int (nI (by2 f p)))], [.int (nI p), .ref m0, .ref m0, .int (nI (f0 + k)), .ref (q 29)], M134)) rfl rfl rfl ?_
                        refine ps_st (S' := (222, [(6, .int (nI (f0 + k))), (0, .ref m0), (1, .int (nI p)), (2, .int (nI (by2 f pF))), (3, .int (nI f0)), (4, .int (nI k)), (5, .int (nI (by2 f p)))], [.int 4, .int (nI p), .ref m0, .ref m0, .int (nI (f0 + k)), .ref (q 29)], M134)) rfl rfl rfl ?_
                        refine ps_st (S' := (223, [(6, .int (nI (f0 + k))), (0, .ref m0), (1, .int (nI p)), (2, .int (nI (by2 f pF))), (3, .int (nI f0)), (4, .int (nI k)), (5, .int (nI (by2 f p)))], [.int ((nI p) + 4), .ref m0, .ref m0, .int (nI (f0 + k)), .ref (q 29)], M134)) rfl rfl rfl ?_
                        rw [nI_add1 (p := p) (k := 4) (x := 4) rfl (by omega)]
                        show pl _ _ _ (_, [(6, .int (nI (f0 + k))), (0, .ref m0), (1, .int (nI p)), (2, .int (nI (by2 f pF))), (3, .int (nI f0)), (4, .int (nI k)), (5, .int (nI (by2 f p)))], [.int (nI (p + 4)), .ref m0, .ref m0, .int (nI (f0 + k)), .ref (q 29)], M134) _
                        refine pl_call (a := [.ref m0, .int (nI (p + 4))]) (rest := [.ref m0, .int (nI (f0 + k)), .ref (q 29)]) rfl rfl rfl (rd_u2 (n := n) (f := f) (p := (p + 4)) hR136 hF_138 (by omega)) (fun v147 M148 q149 => ?_)
                        obtain ⟨rfl, rfl⟩ := q149
                        show pl _ _ _ (226, [(6, .int (nI (f0 + k))), (0, .ref m0), (1, .int (nI p)), (2, .int (nI (by2 f pF))), (3, .int (nI f0)), (4, .int (nI k)), (5, .int (nI (by2 f p)))], [.int (nI (by2 f (p + 4))), .ref m0, .int (nI (f0 + k)), .ref (q 29)], M134) _
                        have hu_223 := by2_lt f (p + 4)
                        refine pl_call (a := [.ref m0, .int (nI (by2 f (p + 4)))]) (rest := [.int (nI (f0 + k)), .ref (q 29)]) rfl rfl rfl (rd_symOf (n := n) (f := f) (tx := tx) (cN := cN) (A := A) (N := N) (mj := mj) (E := E) (k := (by2 f (p + 4))) hR136 hl51 hl52 hl53 hF_138 hY_139 hP_140 (hEP) (hN) (hmj) (by omega)) (fun v150 M151 q152 => ?_)
                        obtain ⟨s153, q226_s, rfl, rfl⟩ := q152
                        show pl _ _ _ (229, [(6, .int (nI (f0 + k))), (0, .ref m0), (1, .int (nI p)), (2, .int (nI (by2 f pF))), (3, .int (nI f0)), (4, .int (nI k)), (5, .int (nI (by2 f p)))], [.int (nI s153), .int (nI (f0 + k)), .ref (q 29)], M134) _
                        have hsl_226 := q226_s.1
                        have htl_226 := hY_139.1.2.2.1
                        refine pr_st (a := 29) (j := f0 + k) rfl hR136 rfl (by omega) (fun M154 R155 i1_229 hR156 hS157 => ?_)
                        have hF_158 := hF_138.mono (fun _ _ => rfl) (rRx hS157 (by decide))
                        have hY_159 := hY_139.mono (fun _ _ => rfl) (rRx hS157 (by decide))
                        have hP_160 := hP_140.mono (fun _ _ => rfl) (rRx hS157 (by decide))
                        have hK_161 := hK_141.mono (fun _ _ => rfl) (rRx hS157 (by decide))
                        have c27_162 := c27_142.mono (fun _ _ => rfl) (rRx hS157 (by decide))
                        have hQ_163 := hQ_143.mono (fun _ _ => rfl) (rRx hS157 (by decide))
                        have c28_164 := c28_145.mono (fun _ _ => rfl) (rRx hS157 (by decide))
                        have hER165 := hER144.st hS157 (by decide)
                        show pl _ _ _ (230, [(6, .int (nI (f0 + k))), (0, .ref m0), (1, .int (nI p)), (2, .int (nI (by2 f pF))), (3, .int (nI f0)), (4, .int (nI k)), (5, .int (nI (by2 f p)))], [], M154) _
                        have c29_166 : CE 29 (f0 + k) (nI s153) I1 R155 := CE.st hS157
                        have hN9_167 := FN.st (I' := I1) hN9_146 hS157 rfl
                        refine ps_st (S' := (231, [(6, .int (nI (f0 + k))), (0, .ref m0), (1, .int (nI p)), (2, .int (nI (by2 f pF))), (3, .int (nI f0)), (4, .int (nI k)), (5, .int (nI (by2 f p)))], [.ref m0], M154)) rfl rfl rfl ?_
                        refine pr_ref (j := 30) (S' := (234, [(6, .int (nI (f0 + k))), (0, .ref m0), (1, .int (nI p)), (2, .int (nI (by2 f pF))), (3, .int (nI f0)), (4, .int (nI k)), (5, .int (nI (by2 f p)))], [.ref (q 30)], M154)) rfl hR156 rfl rfl ?_
                        refine ps_st (S' := (236, [(6, .int (nI (f0 + k))), (0, .ref m0), (1, .int (nI p)), (2, .int (nI (by2 f pF))), (3, .int (nI f0)), (4, .int (nI k)), (5, .int (nI (by2 f p)))], [.int (nI (f0 + k)), .ref (q 30)], M154)) rfl rfl rfl ?_
                        refine ps_st (S' := (237, [(6, .int (nI (f0 + k))), (0, .ref m0), (1, .int (nI p)), (2, .int (nI (by2 f pF))), (3, .int (nI f0)), (4, .int (nI k)), (5, .int (nI (by2 f p)))], [.int 0, .int (nI (f0 + k)), .ref (q 30)], M154)) rfl rfl rfl ?_
                        refine pr_st (a := 30) (j := f0 + k) rfl hR156 rfl (by omega) (fun M168 R169 i1_237 hR170 hS171 => ?_)
                        have hF_172 := hF_158.mono (fun _ _ => rfl) (rRx hS171 (by decide))
                        have hY_173 := hY_159.mono (fun _ _ => rfl) (rRx hS171 (by decide))
                        have hP_174 := hP_160.mono (fun _ _ => rfl) (rRx hS171 (by decide))
                        have hK_175 := hK_161.mono (fun _ _ => rfl) (rRx hS171 (by decide))
                        have c27_176 := c27_162.mono (fun _ _ => rfl) (rRx hS171 (by decide))
                        have c28_177 := c28_164.mono (fun _ _ => rfl) (rRx hS171 (by decide))
                        have c29_178 := c29_166.mono (fun _ _ => rfl) (rRx hS171 (by decide))
                        have hN9_179 := hN9_167.mono (fun _ _ => rfl) (rRx hS171 (by decide))
                        have hER180 := hER165.st hS171 (by decide)
                        show pl _ _ _ (238, [(6, .int (nI (f0 + k))), (0, .ref m0), (1, .int (nI p)), (2, .int (nI (by2 f pF))), (3, .int (nI f0)), (4, .int (nI k)), (5, .int (nI (by2 f p)))], [], M168) _
                        have c30_181 : CE 30 (f0 + k) 0 I1 R169 := CE.st hS171
                        have hQ_182 := FQ.st (I' := I1) hQ_163 hS171 rfl
                        refine ps_st (S' := (239, [(6, .int (nI (f0 + k))), (0, .ref m0), (1, .int (nI p)), (2, .int (nI (by2 f pF))), (3, .int (nI f0)), (4, .int (nI k)), (5, .int (nI (by2 f p)))], [.ref m0], M168)) rfl rfl rfl ?_
                        refine pr_ref (j := 31) (S' := (242, [(6, .int (nI (f0 + k))), (0, .ref m0), (1, .int (nI p)), (2, .int (nI (by2 f pF))), (3, .int (nI f0)), (4, .int (nI k)), (5, .int (nI (by2 f p)))], [.ref (q 31)], M168)) rfl hR170 rfl rfl ?_
                        refine ps_st (S' := (244, [(6, .int (nI (f0 + k))), (0, .ref m0), (1, .int (nI p)), (2, .int (nI (by2 f pF))), (3, .int (nI f0)), (4, .int (nI k)), (5, .int (nI (by2 f p)))], [.int (nI (f0 + k)), .ref (q 31)], M168)) rfl rfl rfl ?_
                        refine ps_st (S' := (245, [(6, .int (nI (f0 + k))), (0, .ref m0), (1, .int (nI p)), (2, .int (nI (by2 f pF))), (3, .int (nI f0)), (4, .int (nI k)), (5, .int (nI (by2 f p)))], [.int 0, .int (nI (f0 + k)), .ref (q 31)], M168)) rfl rfl rfl ?_
                        refine pr_st (a := 31) (j := f0 + k) rfl hR170 rfl (by omega) (fun M183 R184 i1_245 hR185 hS186 => ?_)
                        have hF_187 := hF_172.mono (fun _ _ => rfl) (rRx hS186 (by decide))
                        have hY_188 := hY_173.mono (fun _ _ => rfl) (rRx hS186 (by decide))
                        have hP_189 := hP_174.mono (fun _ _ => rfl) (rRx hS186 (by decide))
                        have hK_190 := hK_175.mono (fun _ _ => rfl) (rRx hS186 (by decide))
                        have c27_191 := c27_176.mono (fun _ _ => rfl) (rRx hS186 (by decide))
                        have c28_192 := c28_177.mono (fun _ _ => rfl) (rRx hS186 (by decide))
                        have c29_193 := c29_178.mono (fun _ _ => rfl) (rRx hS186 (by decide))
                        have hN9_194 := hN9_179.mono (fun _ _ => rfl) (rRx hS186 (by decide))
                        have c30_195 := c30_181.mono (fun _ _ => rfl) (rRx hS186 (by decide))
                        have hER196 := hER180.st hS186 (by decide)
                        show pl _ _ _ (246, [(6, .int (nI (f0 + k))), (0, .ref m0), (1, .int (nI p)), (2, .int (nI (by2 f pF))), (3, .int (nI f0)), (4, .int (nI k)), (5, .int (nI (by2 f p)))], [], M183) _
                        have c31_197 : CE 31 (f0 + k) 0 I1 R184 := CE.st hS186
                        have hQ_198 := FQ.st (I' := I1) hQ_182 hS186 rfl
                        refine ps_st (S' := (247, [(6, .int (nI (f0 + k))), (0, .ref m0), (1, .int (nI p)), (2, .int (nI (by2 f pF))), (3, .int (nI f0)), (4, .int (nI k)), (5, .int (nI (by2 f p)))], [.ref m0], M183)) rfl rfl rfl ?_
                        refine pr_ref (j := 32) (S' := (250, [(6, .int (nI (f0 + k))), (0, .ref m0), (1, .int (nI p)), (2, .int (nI (by2 f pF))), (3, .int (nI f0)), (4, .int (nI k)), (5, .int (nI (by2 f p)))], [.ref (q 32)], M183)) rfl hR185 rfl rfl ?_
                        refine ps_st (S' := (252, [(6, .int (nI (f0 + k))), (0, .ref m0), (1, .int (nI p)), (2, .int (nI (by2 f pF))), (3, .int (nI f0)), (4, .int (nI k)), (5, .int (nI (by2 f p)))], [.int (nI (f0 + k)), .ref (q 32)], M183)) rfl rfl rfl ?_
                        refine ps_st (S' := (253, [(6, .int (nI (f0 + k))), (0, .ref m0), (1, .int (nI p)), (2, .int (nI (by2 f pF))), (3, .int (nI f0)), (4, .int (nI k)), (5, .int (nI (by2 f p)))], [.ref m0, .int (nI (f0 + k)), .ref (q 32)], M183)) rfl rfl rfl ?_
                        refine ps_st (S' := (254, [(6, .int (nI (f0 + k))), (0, .ref m0), (1, .int (nI p)), (2, .int (nI (by2 f pF))), (3, .int (nI f0)), (4, .int (nI k)), (5, .int (nI (by2 f p)))], [.int (nI p), .ref m0, .int (nI (f0 + k)), .ref (q 32)], M183)) rfl rfl rfl ?_
                        refine ps_st (S' := (255, [(6, .int (nI (f0 + k))), (0, .ref m0), (1, .int (nI p)), (2, .int (nI (by2 f pF))), (3, .int (nI f0)), (4, .int (nI k)), (5, .int (nI (by2 f p)))], [.int 2, .int (nI p), .ref m0, .int (nI (f0 + k)), .ref (q 32)], M183)) rfl rfl rfl ?_
                        refine ps_st (S' := (256, [(6, .int (nI (f0 + k))), (0, .ref m0), (1, .int (nI p)), (2, .int (nI (by2 f pF))), (3, .int (nI f0)), (4, .int (nI k)), (5, .int (nI (by2 f p)))], [.int ((nI p) + 2), .ref m0, .int (nI (f0 + k)), .ref (q 32)], M183)) rfl rfl rfl ?_
                        rw [nI_add1 (p := p) (k := 2) (x := 2) rfl (by omega)]
                        show pl _ _ _ (_, [(6, .int (nI (f0 + k))), (0, .ref m0), (1, .int (nI p)), (2, .int (nI (by2 f pF))), (3, .int (nI f0)), (4, .int (nI k)), (5, .int (nI (by2 f p)))], [.int (nI (p + 2)), .ref m0, .int (nI (f0 + k)), .ref (q 32)], M183) _
                        refine pl_call (a := [.ref m0, .int (nI (p + 2))]) (rest := [.int (nI (f0 + k)), .ref (q 32)]) rfl rfl rfl (rd_u2 (n := n) (f := f) (p := (p + 2)) hR185 hF_187 (by omega)) (fun v199 M200 q201 => ?_)
                        obtain ⟨rfl, rfl⟩ := q201
                        show pl _ _ _ (259, [(6, .int (nI (f0 + k))), (0, .ref m0), (1, .int (nI p)), (2, .int (nI (by2 f pF))), (3, .int (nI f0)), (4, .int (nI k)), (5, .int (nI (by2 f p)))], [.int (nI (by2 f (p + 2))), .int (nI (f0 + k)), .ref (q 32)], M183) _
                        have hu_256 := by2_lt f (p + 2)
                        refine pr_st (a := 32) (j := f0 + k) rfl hR185 rfl (by omega) (fun M202 R203 i1_259 hR204 hS205 => ?_)
                        have hF_206 := hF_187.mono (fun _ _ => rfl) (rRx hS205 (by decide))
                        have hY_207 := hY_188.mono (fun _ _ => rfl) (rRx hS205 (by decide))
                        have hP_208 := hP_189.mono (fun _ _ => rfl) (rRx hS205 (by decide))
                        have hK_209 := hK_190.mono (fun _ _ => rfl) (rRx hS205 (by decide))
                        have c27_210 := c27_191.mono (fun _ _ => rfl) (rRx hS205 (by decide))
                        have c28_211 := c28_192.mono (fun _ _ => rfl) (rRx hS205 (by decide))
                        have c29_212 := c29_193.mono (fun _ _ => rfl) (rRx hS205 (by decide))
                        have hN9_213 := hN9_194.mono (fun _ _ => rfl) (rRx hS205 (by decide))
                        have c30_214 := c30_195.mono (fun _ _ => rfl) (rRx hS205 (by decide))
                        have c31_215 := c31_197.mono (fun _ _ => rfl) (rRx hS205 (by decide))
                        have hER216 := hER196.st hS205 (by decide)
                        show pl _ _ _ (260, [(6, .int (nI (f0 + k))), (0, .ref m0), (1, .int (nI p)), (2, .int (nI (by2 f pF))), (3, .int (nI f0)), (4, .int (nI k)), (5, .int (nI (by2 f p)))], [], M202) _
                        have c32_217 : CE 32 (f0 + k) (nI (by2 f (p + 2))) I1 R203 := CE.st hS205
                        have hQ_218 := FQ.st (I' := I1) hQ_198 hS205 rfl
                        refine ps_st (S' := (261, [(6, .int (nI (f0 + k))), (0, .ref m0), (1, .int (nI p)), (2, .int (nI (by2 f pF))), (3, .int (nI f0)), (4, .int (nI k)), (5, .int (nI (by2 f p)))], [.ref m0], M202)) rfl rfl rfl ?_
                        refine pr_ref (j := 33) (S' := (264, [(6, .int (nI (f0 + k))), (0, .ref m0), (1, .int (nI p)), (2, .int (nI (by2 f pF))), (3, .int (nI f0)), (4, .int (nI k)), (5, .int (nI (by2 f p)))], [.ref (q 33)], M202)) rfl hR204 rfl rfl ?_
                        refine ps_st (S' := (266, [(6, .int (nI (f0 + k))), (0, .ref m0), (1, .int (nI p)), (2, .int (nI (by2 f pF))), (3, .int (nI f0)), (4, .int (nI k)), (5, .int (nI (by2 f p)))], [.int (nI (f0 + k)), .ref (q 33)], M202)) rfl rfl rfl ?_
                        refine ps_st (S' := (267, [(6, .int (nI (f0 + k))), (0, .ref m0), (1, .int (nI p)), (2, .int (nI (by2 f pF))), (3, .int (nI f0)), (4, .int (nI k)), (5, .int (nI (by2 f p)))], [.ref m0, .int (nI (f0 + k)), .ref (q 33)], M202)) rfl rfl rfl ?_
                        refine ps_st (S' := (268, [(6, .int (nI (f0 + k))), (0, .ref m0), (1, .int (nI p)), (2, .int (nI (by2 f pF))), (3, .int (nI f0)), (4, .int (nI k)), (5, .int (nI (by2 f p)))], [.int (nI p), .ref m0, .int (nI (f0 + k)), .ref (q 33)], M202)) rfl rfl rfl ?_
                        refine ps_st (S' := (269, [(6, .int (nI (f0 + k))), (0, .ref m0), (1, .int (nI p)), (2, .int (nI (by2 f pF))), (3, .int (nI f0)), (4, .int (nI k)), (5, .int (nI (by2 f p)))], [.int 4, .int (nI p), .ref m0, .int (nI (f0 + k)), .ref (q 33)], M202)) rfl rfl rfl ?_
                        refine ps_st (S' := (270, [(6, .int (nI (f0 + k))), (0, .ref m0), (1, .int (nI p)), (2, .int (nI (by2 f pF))), (3, .int (nI f0)), (4, .int (nI k)), (5, .int (nI (by2 f p)))], [.int ((nI p) + 4), .ref m0, .int (nI (f0 + k)), .ref (q 33)], M202)) rfl rfl rfl ?_
                        rw [nI_add1 (p := p) (k := 4) (x := 4) rfl (by omega)]
                        show pl _ _ _ (_, [(6, .int (nI (f0 + k))), (0, .ref m0), (1, .int (nI p)), (2, .int (nI (by2 f pF))), (3, .int (nI f0)), (4, .int (nI k)), (5, .int (nI (by2 f p)))], [.int (nI (p + 4)), .ref m0, .int (nI (f0 + k)), .ref (q 33)], M202) _
                        refine pl_call (a := [.ref m0, .int (nI (p + 4))]) (rest := [.int (nI (f0 + k)), .ref (q 33)]) rfl rfl rfl (rd_u2 (n := n) (f := f) (p := (p + 4)) hR204 hF_206 (by omega)) (fun v219 M220 q221 => ?_)
                        obtain ⟨rfl, rfl⟩ := q221
                        show pl _ _ _ (273, [(6, .int (nI (f0 + k))), (0, .ref m0), (1, .int (nI p)), (2, .int (nI (by2 f pF))), (3, .int (nI f0)), (4, .int (nI k)), (5, .int (nI (by2 f p)))], [.int (nI (by2 f (p + 4))), .int (nI (f0 + k)), .ref (q 33)], M202) _
                        have hu_270 := by2_lt f (p + 4)
                        refine pr_st (a := 33) (j := f0 + k) rfl hR204 rfl (by omega) (fun M222 R223 i1_273 hR224 hS225 => ?_)
                        have hF_226 := hF_206.mono (fun _ _ => rfl) (rRx hS225 (by decide))
                        have hY_227 := hY_207.mono (fun _ _ => rfl) (rRx hS225 (by decide))
                        have hP_228 := hP_208.mono (fun _ _ => rfl) (rRx hS225 (by decide))
                        have hK_229 := hK_209.mono (fun _ _ => rfl) (rRx hS225 (by decide))
                        have c27_230 := c27_210.mono (fun _ _ => rfl) (rRx hS225 (by decide))
                        have c28_231 := c28_211.mono (fun _ _ => rfl) (rRx hS225 (by decide))
                        have c29_232 := c29_212.mono (fun _ _ => rfl) (rRx hS225 (by decide))
                        have hN9_233 := hN9_213.mono (fun _ _ => rfl) (rRx hS225 (by decide))
                        have c30_234 := c30_214.mono (fun _ _ => rfl) (rRx hS225 (by decide))
                        have c31_235 := c31_215.mono (fun _ _ => rfl) (rRx hS225 (by decide))
                        have c32_236 := c32_217.mono (fun _ _ => rfl) (rRx hS225 (by decide))
                        have hER237 := hER216.st hS225 (by decide)
                        show pl _ _ _ (274, [(6, .int (nI (f0 + k))), (0, .ref m0), (1, .int (nI p)), (2, .int (nI (by2 f pF))), (3, .int (nI f0)), (4, .int (nI k)), (5, .int (nI (by2 f p)))], [], M222) _
                        have c33_238 : CE 33 (f0 + k) (nI (by2 f (p + 4))) I1 R223 := CE.st hS225
                        have hQ_239 := FQ.st (I' := I1) hQ_218 hS225 rfl
                        refine ps_st (S' := (275, [(6, .int (nI (f0 + k))), (0, .ref m0), (1, .int (nI p)), (2, .int (nI (by2 f pF))), (3, .int (nI f0)), (4, .int (nI k)), (5, .int (nI (by2 f p)))], [.int (nI f0)], M222)) rfl rfl rfl ?_
                        refine ps_st (S' := (277, [(0, .ref m0), (1, .int (nI p)), (2, .int (nI (by2 f pF))), (3, .int (nI f0)), (4, .int (nI k)), (6, .int (nI (f0 + k))), (7, .int (nI f0))], [], M222)) rfl rfl rfl ?_
                        have h19 : ¬ fflN cf (by2 f p) = 0 := by
                          have e1 := ffl_0 cf (by2 f p)
                          have e2 := sev_0 (by2 f p)
                          have e3 := hall_80 (by2 f p)
                          omega
                        exact ih.2 (k) (p) (0) (s133) (s153) M222 I1 R223 hR224 hEI1 hER237 hl51 hl52 hl53 hl58 hl55 hl25 hF_226 hY_227 hP_228 hK_229 hN9_233 c27_230 c28_231 c29_232 hQ_239 c30_234 c31_235 c32_236 c33_238 (by omega) (hpk) (by omega) (hs) (by omega) (by omega) (q208_s) (q226_s) (by omega) (by omega) (h19) (by omega) (by omega) (rfl)
                      · have c_166 : ¬ (¬ (nI (fldN (tX f n E (by2 f (p + 4))))) = 0) := of_decide_eq_false c_166
                        have n_166 : fldN (tX f n E (by2 f (p + 4))) = 0 := (eq_nI (p := fldN (tX f n E (by2 f (p + 4)))) (n := 0) (Nat.lt_trans (le1_fld _) (by decide)) (by decide)).mp (Decidable.not_not.mp c_166)
                        refine ps_st (S' := (170, [(0, .ref m0), (1, .int (nI p))], [.ref m0], M1)) rfl rfl rfl ?_
                        refine ps_st (S' := (172, [(0, .ref m0), (1, .int (nI p))], [.int 21, .ref m0], M1)) rfl rfl rfl ?_
                        refine ps_st (S' := (173, [(0, .ref m0), (1, .int (nI p))], [.int (nI p), .int 21, .ref m0], M1)) rfl rfl rfl ?_
                        refine ps_st (S' := (174, [(0, .ref m0), (1, .int (nI p))], [.int 4, .int (nI p), .int 21, .ref m0], M1)) rfl rfl rfl ?_
                        refine ps_st (S' := (175, [(0, .ref m0), (1, .int (nI p))], [.int ((nI p) + 4), .int 21, .ref m0], M1)) rfl rfl rfl ?_
                        rw [nI_add1 (p := p) (k := 4) (x := 4) rfl (by omega)]
                        show pl _ _ _ (_, [(0, .ref m0), (1, .int (nI p))], [.int (nI (p + 4)), .int 21, .ref m0], M1) _
                        refine pl_call (a := [.ref m0, .int 21, .int (nI (p + 4))]) (rest := []) rfl rfl rfl (rd_wrong (x1 := 21) (x2 := (nI (p + 4))) hR1) (fun v240 M241 q242 => ?_)
                        obtain ⟨I243, R244, rfl, hR245, hI246, hX247, hi248, hi249⟩ := q242
                        have hi250 := (hI246 51 (by decide)).trans hl51
                        have hi251 := (hI246 52 (by decide)).trans hl52
                        have hi252 := (hI246 53 (by decide)).trans hl53
                        have hi253 := (hI246 58 (by decide)).trans hl58
                        have hi254 := (hI246 55 (by decide)).trans hl55
                        have hi255 := (hI246 25 (by decide)).trans hl25
                        have hF_256 := hF1.mono (cIx hI246 (by decide)) (cRx hX247 (by decide))
                        have hY_257 := hY1.mono (cIx hI246 (by decide)) (cRx hX247 (by decide))
                        have hP_258 := hP1.mono (cIx hI246 (by decide)) (cRx hX247 (by decide))
                        have hK_259 := hK1.mono (cIx hI246 (by decide)) (cRx hX247 (by decide))
                        have hN9_260 := hN91.mono (cIx hI246 (by decide)) (cRx hX247 (by decide))
                        have hQ_261 := hQ1.mono (cIx hI246 (by decide)) (cRx hX247 (by decide))
                        have hEI262 := hEI1.tr hI246 (by decide)
                        have hER263 := hER1.tr hX247 (by decide)
                        show pl _ _ _ (178, [(0, .ref m0), (1, .int (nI p))], [.int 0], M241) _
                        exact ps_ret rfl rfl (Or.inr ⟨(21, p + 4), I243, R244, by
                            rw [← hs, flS_st (i := k) (by omega), ← hpk, fh_21 (by have e1 := ffl_0 cf (by2 f p); have e2 := sev_0 (by2 f p); have e3 := hall_80 (by2 f p); omega) (by omega) (by omega)], rfl, hR245, hEI262, hER263, hi248, hi249⟩)
                  · have c_123 : ¬ (¬ (nI (unqN (tX f n E (by2 f (p + 2))))) = 0) := of_decide_eq_false c_123
                    have n_123 : unqN (tX f n E (by2 f (p + 2))) = 0 := (eq_nI (p := unqN (tX f n E (by2 f (p + 2)))) (n := 0) (Nat.lt_trans (le1_unq _) (by decide)) (by decide)).mp (Decidable.not_not.mp c_123)
                    refine ps_st (S' := (127, [(0, .ref m0), (1, .int (nI p))], [.ref m0], M1)) rfl rfl rfl ?_
                    refine ps_st (S' := (129, [(0, .ref m0), (1, .int (nI p))], [.int 20, .ref m0], M1)) rfl rfl rfl ?_
                    refine ps_st (S' := (130, [(0, .ref m0), (1, .int (nI p))], [.int (nI p), .int 20, .ref m0], M1)) rfl rfl rfl ?_
                    refine ps_st (S' := (131, [(0, .ref m0), (1, .int (nI p))], [.int 2, .int (nI p), .int 20, .ref m0], M1)) rfl rfl rfl ?_
                    refine ps_st (S' := (132, [(0, .ref m0), (1, .int (nI p))], [.int ((nI p) + 2), .int 20, .ref m0], M1)) rfl rfl rfl ?_
                    rw [nI_add1 (p := p) (k := 2) (x := 2) rfl (by omega)]
                    show pl _ _ _ (_, [(0, .ref m0), (1, .int (nI p))], [.int (nI (p + 2)), .int 20, .ref m0], M1) _
                    refine pl_call (a := [.ref m0, .int 20, .int (nI (p + 2))]) (rest := []) rfl rfl rfl (rd_wrong (x1 := 20) (x2 := (nI (p + 2))) hR1) (fun v264 M265 q266 => ?_)
                    obtain ⟨I267, R268, rfl, hR269, hI270, hX271, hi272, hi273⟩ := q266
                    have hi274 := (hI270 51 (by decide)).trans hl51
                    have hi275 := (hI270 52 (by decide)).trans hl52
                    have hi276 := (hI270 53 (by decide)).trans hl53
                    have hi277 := (hI270 58 (by decide)).trans hl58
                    have hi278 := (hI270 55 (by decide)).trans hl55
                    have hi279 := (hI270 25 (by decide)).trans hl25
                    have hF_280 := hF1.mono (cIx hI270 (by decide)) (cRx hX271 (by decide))
                    have hY_281 := hY1.mono (cIx hI270 (by decide)) (cRx hX271 (by decide))
                    have hP_282 := hP1.mono (cIx hI270 (by decide)) (cRx hX271 (by decide))
                    have hK_283 := hK1.mono (cIx hI270 (by decide)) (cRx hX271 (by decide))
                    have hN9_284 := hN91.mono (cIx hI270 (by decide)) (cRx hX271 (by decide))
                    have hQ_285 := hQ1.mono (cIx hI270 (by decide)) (cRx hX271 (by decide))
                    have hEI286 := hEI1.tr hI270 (by decide)
                    have hER287 := hER1.tr hX271 (by decide)
                    show pl _ _ _ (135, [(0, .ref m0), (1, .int (nI p))], [.int 0], M265) _
                    exact ps_ret rfl rfl (Or.inr ⟨(20, p + 2), I267, R268, by
                        rw [← hs, flS_st (i := k) (by omega), ← hpk, fh_20 (by have e1 := ffl_0 cf (by2 f p); have e2 := sev_0 (by2 f p); have e3 := hall_80 (by2 f p); omega) (by omega)], rfl, hR269, hEI286, hER287, hi272, hi273⟩)
              · have c_70 : ¬ ((nI (aN cf 512)) = 0) := of_decide_eq_false c_70
                have n_70 : ¬ (aN cf 512 = 0) := fun h9 => c_70 ((eq_nI (p := aN cf 512) (n := 0) (Nat.lt_of_le_of_lt (an_le _ _) (by decide)) (by decide)).mpr h9)
                refine ps_st (S' := (75, [(0, .ref m0), (1, .int (nI p)), (2, .int (nI (by2 f pF))), (3, .int (nI f0)), (4, .int (nI k)), (5, .int (nI (by2 f p)))], [.int (nI (by2 f p))], M1)) rfl rfl rfl ?_
                refine ps_st (S' := (78, [(0, .ref m0), (1, .int (nI p)), (2, .int (nI (by2 f pF))), (3, .int (nI f0)), (4, .int (nI k)), (5, .int (nI (by2 f p)))], [.int 16607, .int (nI (by2 f p))], M1)) rfl rfl rfl ?_
                refine ps_st (S' := (79, [(0, .ref m0), (1, .int (nI p)), (2, .int (nI (by2 f pF))), (3, .int (nI f0)), (4, .int (nI k)), (5, .int (nI (by2 f p)))], [.int ((nI (by2 f p)) &&& 16607)], M1)) rfl rfl rfl ?_
                rw [nI_an (p := by2 f p) (k := 16607) (x := 16607) rfl]
                show pl _ _ _ (_, [(0, .ref m0), (1, .int (nI p)), (2, .int (nI (by2 f pF))), (3, .int (nI f0)), (4, .int (nI k)), (5, .int (nI (by2 f p)))], [.int (nI (aN (by2 f p) 16607))], M1) _
                refine ps_st (S' := (81, [(0, .ref m0), (1, .int (nI p)), (2, .int (nI (by2 f pF))), (3, .int (nI f0)), (4, .int (nI k)), (5, .int (nI (by2 f p)))], [.int 25, .int (nI (aN (by2 f p) 16607))], M1)) rfl rfl rfl ?_
                refine ps_if2 (S1 := (92, [(0, .ref m0), (1, .int (nI p)), (2, .int (nI (by2 f pF))), (3, .int (nI f0)), (4, .int (nI k)), (5, .int (nI (by2 f p)))], [], M1)) (S2 := (84, [(0, .ref m0), (1, .int (nI p))], [], M1)) rfl rfl rfl (fun c_81 => ?_) (fun c_81 => ?_)
                · have c_81 : (nI (aN (by2 f p) 16607)) = 25 := of_decide_eq_true c_81
                  have n_81 : aN (by2 f p) 16607 = 25 := (eq_nI (p := aN (by2 f p) 16607) (n := 25) (Nat.lt_of_le_of_lt (an_le _ _) (by decide)) (by decide)).mp c_81
                  refine ps_st (S' := (93, [(0, .ref m0), (1, .int (nI p)), (2, .int (nI (by2 f pF))), (3, .int (nI f0)), (4, .int (nI k)), (5, .int (nI (by2 f p)))], [.ref m0], M1)) rfl rfl rfl ?_
                  refine ps_st (S' := (94, [(0, .ref m0), (1, .int (nI p)), (2, .int (nI (by2 f pF))), (3, .int (nI f0)), (4, .int (nI k)), (5, .int (nI (by2 f p)))], [.ref m0, .ref m0], M1)) rfl rfl rfl ?_
                  refine ps_st (S' := (95, [(0, .ref m0), (1, .int (nI p)), (2, .int (nI (by2 f pF))), (3, .int (nI f0)), (4, .int (nI k)), (5, .int (nI (by2 f p)))], [.int (nI p), .ref m0, .ref m0], M1)) rfl rfl rfl ?_
                  refine ps_st (S' := (96, [(0, .ref m0), (1, .int (nI p)), (2, .int (nI (by2 f pF))), (3, .int (nI f0)), (4, .int (nI k)), (5, .int (nI (by2 f p)))], [.int 2, .int (nI p), .ref m0, .ref m0], M1)) rfl rfl rfl ?_
                  refine ps_st (S' := (97, [(0, .ref m0), (1, .int (nI p)), (2, .int (nI (by2 f pF))), (3, .int (nI f0)), (4, .int (nI k)), (5, .int (nI (by2 f p)))], [.int ((nI p) + 2), .ref m0, .ref m0], M1)) rfl rfl rfl ?_
                  rw [nI_add1 (p := p) (k := 2) (x := 2) rfl (by omega)]
                  show pl _ _ _ (_, [(0, .ref m0), (1, .int (nI p)), (2, .int (nI (by2 f pF))), (3, .int (nI f0)), (4, .int (nI k)), (5, .int (nI (by2 f p)))], [.int (nI (p + 2)), .ref m0, .ref m0], M1) _
                  refine pl_call (a := [.ref m0, .int (nI (p + 2))]) (rest := [.ref m0]) rfl rfl rfl (rd_u2 (n := n) (f := f) (p := (p + 2)) hR1 hF1 (by omega)) (fun v288 M289 q290 => ?_)
                  obtain ⟨rfl, rfl⟩ := q290
                  show pl _ _ _ (100, [(0, .ref m0), (1, .int (nI p)), (2, .int (nI (by2 f pF))), (3, .int (nI f0)), (4, .int (nI k)), (5, .int (nI (by2 f p)))], [.int (nI (by2 f (p + 2))), .ref m0], M1) _
                  have hu_97 := by2_lt f (p + 2)
                  refine pl_call (a := [.ref m0, .int (nI (by2 f (p + 2)))]) (rest := []) rfl rfl rfl (rd_tag (n := n) (f := f) (tx := tx) (cN := cN) (A := A) (N := N) (mj := mj) (E := E) (k := (by2 f (p + 2))) hR1 hl51 hl52 hl53 hF1 hY1 hP1 (hEP) (hN) (hmj) (by2_lt _ _)) (fun v291 M292 q293 => ?_)
                  obtain ⟨rfl, rfl⟩ := q293
                  show pl _ _ _ (103, [(0, .ref m0), (1, .int (nI p)), (2, .int (nI (by2 f pF))), (3, .int (nI f0)), (4, .int (nI k)), (5, .int (nI (by2 f p)))], [.int (nI (tg f E (by2 f (p + 2))))], M1) _
                  have htg_100 := tg_lt f E (by2 f (p + 2))
                  refine ps_st (S' := (104, [(0, .ref m0), (1, .int (nI p)), (2, .int (nI (by2 f pF))), (3, .int (nI f0)), (4, .int (nI k)), (5, .int (nI (by2 f p)))], [.int 1, .int (nI (tg f E (by2 f (p + 2))))], M1)) rfl rfl rfl ?_
                  refine ps_if2 (S1 := (126, [(0, .ref m0), (1, .int (nI p))], [], M1)) (S2 := (107, [(0, .ref m0), (1, .int (nI p)), (2, .int (nI (by2 f pF))), (3, .int (nI f0)), (4, .int (nI k)), (5, .int (nI (by2 f p)))], [], M1)) rfl rfl rfl (fun c_104 => ?_) (fun c_104 => ?_)
                  · have c_104 : ¬ (nI (tg f E (by2 f (p + 2)))) = 1 := of_decide_eq_true c_104
                    have n_104 : ¬ (tg f E (by2 f (p + 2)) = 1) := fun h9 => c_104 ((eq_nI (p := tg f E (by2 f (p + 2))) (n := 1) (Nat.lt_trans (tg_lt _ _ _) (by decide)) (by decide)).mpr h9)
                    refine ps_st (S' := (127, [(0, .ref m0), (1, .int (nI p))], [.ref m0], M1)) rfl rfl rfl ?_
                    refine ps_st (S' := (129, [(0, .ref m0), (1, .int (nI p))], [.int 20, .ref m0], M1)) rfl rfl rfl ?_
                    refine ps_st (S' := (130, [(0, .ref m0), (1, .int (nI p))], [.int (nI p), .int 20, .ref m0], M1)) rfl rfl rfl ?_
                    refine ps_st (S' := (131, [(0, .ref m0), (1, .int (nI p))], [.int 2, .int (nI p), .int 20, .ref m0], M1)) rfl rfl rfl ?_
                    refine ps_st (S' := (132, [(0, .ref m0), (1, .int (nI p))], [.int ((nI p) + 2), .int 20, .ref m0], M1)) rfl rfl rfl ?_
                    rw [nI_add1 (p := p) (k := 2) (x := 2) rfl (by omega)]
                    show pl _ _ _ (_, [(0, .ref m0), (1, .int (nI p))], [.int (nI (p + 2)), .int 20, .ref m0], M1) _
                    refine pl_call (a := [.ref m0, .int 20, .int (nI (p + 2))]) (rest := []) rfl rfl rfl (rd_wrong (x1 := 20) (x2 := (nI (p + 2))) hR1) (fun v294 M295 q296 => ?_)
                    obtain ⟨I297, R298, rfl, hR299, hI300, hX301, hi302, hi303⟩ := q296
                    have hi304 := (hI300 51 (by decide)).trans hl51
                    have hi305 := (hI300 52 (by decide)).trans hl52
                    have hi306 := (hI300 53 (by decide)).trans hl53
                    have hi307 := (hI300 58 (by decide)).trans hl58
                    have hi308 := (hI300 55 (by decide)).trans hl55
                    have hi309 := (hI300 25 (by decide)).trans hl25
                    have hF_310 := hF1.mono (cIx hI300 (by decide)) (cRx hX301 (by decide))
                    have hY_311 := hY1.mono (cIx hI300 (by decide)) (cRx hX301 (by decide))
                    have hP_312 := hP1.mono (cIx hI300 (by decide)) (cRx hX301 (by decide))
                    have hK_313 := hK1.mono (cIx hI300 (by decide)) (cRx hX301 (by decide))
                    have hN9_314 := hN91.mono (cIx hI300 (by decide)) (cRx hX301 (by decide))
                    have hQ_315 := hQ1.mono (cIx hI300 (by decide)) (cRx hX301 (by decide))
                    have hEI316 := hEI1.tr hI300 (by decide)
                    have hER317 := hER1.tr hX301 (by decide)
                    show pl _ _ _ (135, [(0, .ref m0), (1, .int (nI p))], [.int 0], M295) _
                    exact ps_ret rfl rfl (Or.inr ⟨(20, p + 2), I297, R298, by
                        rw [← hs, flS_st (i := k) (by omega), ← hpk, fh_20 (by have e1 := ffl_0 cf (by2 f p); have e2 := sev_0 (by2 f p); have e3 := hall_80 (by2 f p); omega) (by rw [tx_no (by omega)]; decide)], rfl, hR299, hEI316, hER317, hi302, hi303⟩)
                  · have c_104 : ¬ (¬ (nI (tg f E (by2 f (p + 2)))) = 1) := of_decide_eq_false c_104
                    have n_104 : tg f E (by2 f (p + 2)) = 1 := (eq_nI (p := tg f E (by2 f (p + 2))) (n := 1) (Nat.lt_trans (tg_lt _ _ _) (by decide)) (by decide)).mp (Decidable.not_not.mp c_104)
                    refine ps_st (S' := (108, [(0, .ref m0), (1, .int (nI p)), (2, .int (nI (by2 f pF))), (3, .int (nI f0)), (4, .int (nI k)), (5, .int (nI (by2 f p)))], [.ref m0], M1)) rfl rfl rfl ?_
                    refine ps_st (S' := (109, [(0, .ref m0), (1, .int (nI p)), (2, .int (nI (by2 f pF))), (3, .int (nI f0)), (4, .int (nI k)), (5, .int (nI (by2 f p)))], [.ref m0, .ref m0], M1)) rfl rfl rfl ?_
                    refine ps_st (S' := (110, [(0, .ref m0), (1, .int (nI p)), (2, .int (nI (by2 f pF))), (3, .int (nI f0)), (4, .int (nI k)), (5, .int (nI (by2 f p)))], [.ref m0, .ref m0, .ref m0], M1)) rfl rfl rfl ?_
                    refine ps_st (S' := (111, [(0, .ref m0), (1, .int (nI p)), (2, .int (nI (by2 f pF))), (3, .int (nI f0)), (4, .int (nI k)), (5, .int (nI (by2 f p)))], [.int (nI p), .ref m0, .ref m0, .ref m0], M1)) rfl rfl rfl ?_
                    refine ps_st (S' := (112, [(0, .ref m0), (1, .int (nI p)), (2, .int (nI (by2 f pF))), (3, .int (nI f0)), (4, .int (nI k)), (5, .int (nI (by2 f p)))], [.int 2, .int (nI p), .ref m0, .ref m0, .ref m0], M1)) rfl rfl rfl ?_
                    refine ps_st (S' := (113, [(0, .ref m0), (1, .int (nI p)), (2, .int (nI (by2 f pF))), (3, .int (nI f0)), (4, .int (nI k)), (5, .int (nI (by2 f p)))], [.int ((nI p) + 2), .ref m0, .ref m0, .ref m0], M1)) rfl rfl rfl ?_
                    rw [nI_add1 (p := p) (k := 2) (x := 2) rfl (by omega)]
                    show pl _ _ _ (_, [(0, .ref m0), (1, .int (nI p)), (2, .int (nI (by2 f pF))), (3, .int (nI f0)), (4, .int (nI k)), (5, .int (nI (by2 f p)))], [.int (nI (p + 2)), .ref m0, .ref m0, .ref m0], M1) _
                    refine pl_call (a := [.ref m0, .int (nI (p + 2))]) (rest := [.ref m0, .ref m0]) rfl rfl rfl (rd_u2 (n := n) (f := f) (p := (p + 2)) hR1 hF1 (by omega)) (fun v318 M319 q320 => ?_)
                    obtain ⟨rfl, rfl⟩ := q320
                    show pl _ _ _ (116, [(0, .ref m0), (1, .int (nI p)), (2, .int (nI (by2 f pF))), (3, .int (nI f0)), (4, .int (nI k)), (5, .int (nI (by2 f p)))], [.int (nI (by2 f (p + 2))), .ref m0, .ref m0], M1) _
                    have hu_113 := by2_lt f (p + 2)
                    refine pl_call (a := [.ref m0, .int (nI (by2 f (p + 2)))]) (rest := [.ref m0]) rfl rfl rfl (rd_symOf (n := n) (f := f) (tx := tx) (cN := cN) (A := A) (N := N) (mj := mj) (E := E) (k := (by2 f (p + 2))) hR1 hl51 hl52 hl53 hF1 hY1 hP1 (hEP) (hN) (hmj) (by omega)) (fun v321 M322 q323 => ?_)
                    obtain ⟨s324, q116_s, rfl, rfl⟩ := q323
                    show pl _ _ _ (119, [(0, .ref m0), (1, .int (nI p)), (2, .int (nI (by2 f pF))), (3, .int (nI f0)), (4, .int (nI k)), (5, .int (nI (by2 f p)))], [.int (nI s324), .ref m0], M1) _
                    have hsl_116 := q116_s.1
                    have htl_116 := hY1.1.2.2.1
                    refine ps_st (S' := (120, [(0, .ref m0), (1, .int (nI p)), (2, .int (nI (by2 f pF))), (3, .int (nI f0)), (4, .int (nI k)), (5, .int (nI (by2 f p)))], [.int 1, .int (nI s324), .ref m0], M1)) rfl rfl rfl ?_
                    refine pl_call (a := [.ref m0, .int (nI s324), .int 1]) (rest := []) rfl rfl rfl (rd_unq1 (tx := tx) (cN := cN) (A := A) (s := s324) (l := (tX f n E (by2 f (p + 2)))) hR1 hY1 (q116_s)) (fun v325 M326 q327 => ?_)
                    obtain ⟨rfl, rfl⟩ := q327
                    show pl _ _ _ (123, [(0, .ref m0), (1, .int (nI p)), (2, .int (nI (by2 f pF))), (3, .int (nI f0)), (4, .int (nI k)), (5, .int (nI (by2 f p)))], [.int (nI (unqN (tX f n E (by2 f (p + 2)))))], M1) _
                    refine ps_if (S1 := (136, [(0, .ref m0), (1, .int (nI p)), (2, .int (nI (by2 f pF))), (3, .int (nI f0)), (4, .int (nI k)), (5, .int (nI (by2 f p)))], [], M1)) (S2 := (126, [(0, .ref m0), (1, .int (nI p))], [], M1)) rfl rfl rfl (fun c_123 => ?_) (fun c_123 => ?_)
                    · have c_123 : ¬ (nI (unqN (tX f n E (by2 f (p + 2))))) = 0 := of_decide_eq_true c_123
                      have n_123 : ¬ (unqN (tX f n E (by2 f (p + 2))) = 0) := fun h9 => c_123 ((eq_nI (p := unqN (tX f n E (by2 f (p + 2)))) (n := 0) (Nat.lt_trans (le1_unq _) (by decide)) (by decide)).mpr h9)
                      refine ps_st (S' := (137, [(0, .ref m0), (1, .int (nI p)), (2, .int (nI (by2 f pF))), (3, .int (nI f0)), (4, .int (nI k)), (5, .int (nI (by2 f p)))], [.ref m0], M1)) rfl rfl rfl ?_
                      refine ps_st (S' := (138, [(0, .ref m0), (1, .int (nI p)), (2, .int (nI (by2 f pF))), (3, .int (nI f0)), (4, .int (nI k)), (5, .int (nI (by2 f p)))], [.ref m0, .ref m0], M1)) rfl rfl rfl ?_
                      refine ps_st (S' := (139, [(0, .ref m0), (1, .int (nI p)), (2, .int (nI (by2 f pF))), (3, .int (nI f0)), (4, .int (nI k)), (5, .int (nI (by2 f p)))], [.int (nI p), .ref m0, .ref m0], M1)) rfl rfl rfl ?_
                      refine ps_st (S' := (140, [(0, .ref m0), (1, .int (nI p)), (2, .int (nI (by2 f pF))), (3, .int (nI f0)), (4, .int (nI k)), (5, .int (nI (by2 f p)))], [.int 4, .int (nI p), .ref m0, .ref m0], M1)) rfl rfl rfl ?_
                      refine ps_st (S' := (141, [(0, .ref m0), (1, .int (nI p)), (2, .int (nI (by2 f pF))), (3, .int (nI f0)), (4, .int (nI k)), (5, .int (nI (by2 f p)))], [.int ((nI p) + 4), .ref m0, .ref m0], M1)) rfl rfl rfl ?_
                      rw [nI_add1 (p := p) (k := 4) (x := 4) rfl (by omega)]
                      show pl _ _ _ (_, [(0, .ref m0), (1, .int (nI p)), (2, .int (nI (by2 f pF))), (3, .int (nI f0)), (4, .int (nI k)), (5, .int (nI (by2 f p)))], [.int (nI (p + 4)), .ref m0, .ref m0], M1) _
                      refine pl_call (a := [.ref m0, .int (nI (p + 4))]) (rest := [.ref m0]) rfl rfl rfl (rd_u2 (n := n) (f := f) (p := (p + 4)) hR1 hF1 (by omega)) (fun v328 M329 q330 => ?_)
                      obtain ⟨rfl, rfl⟩ := q330
                      show pl _ _ _ (144, [(0, .ref m0), (1, .int (nI p)), (2, .int (nI (by2 f pF))), (3, .int (nI f0)), (4, .int (nI k)), (5, .int (nI (by2 f p)))], [.int (nI (by2 f (p + 4))), .ref m0], M1) _
                      have hu_141 := by2_lt f (p + 4)
                      refine pl_call (a := [.ref m0, .int (nI (by2 f (p + 4)))]) (rest := []) rfl rfl rfl (rd_tag (n := n) (f := f) (tx := tx) (cN := cN) (A := A) (N := N) (mj := mj) (E := E) (k := (by2 f (p + 4))) hR1 hl51 hl52 hl53 hF1 hY1 hP1 (hEP) (hN) (hmj) (by2_lt _ _)) (fun v331 M332 q333 => ?_)
                      obtain ⟨rfl, rfl⟩ := q333
                      show pl _ _ _ (147, [(0, .ref m0), (1, .int (nI p)), (2, .int (nI (by2 f pF))), (3, .int (nI f0)), (4, .int (nI k)), (5, .int (nI (by2 f p)))], [.int (nI (tg f E (by2 f (p + 4))))], M1) _
                      have htg_144 := tg_lt f E (by2 f (p + 4))
                      refine ps_st (S' := (148, [(0, .ref m0), (1, .int (nI p)), (2, .int (nI (by2 f pF))), (3, .int (nI f0)), (4, .int (nI k)), (5, .int (nI (by2 f p)))], [.int 1, .int (nI (tg f E (by2 f (p + 4))))], M1)) rfl rfl rfl ?_
                      refine ps_if2 (S1 := (169, [(0, .ref m0), (1, .int (nI p))], [], M1)) (S2 := (151, [(0, .ref m0), (1, .int (nI p)), (2, .int (nI (by2 f pF))), (3, .int (nI f0)), (4, .int (nI k)), (5, .int (nI (by2 f p)))], [], M1)) rfl rfl rfl (fun c_148 => ?_) (fun c_148 => ?_)
                      · have c_148 : ¬ (nI (tg f E (by2 f (p + 4)))) = 1 := of_decide_eq_true c_148
                        have n_148 : ¬ (tg f E (by2 f (p + 4)) = 1) := fun h9 => c_148 ((eq_nI (p := tg f E (by2 f (p + 4))) (n := 1) (Nat.lt_trans (tg_lt _ _ _) (by decide)) (by decide)).mpr h9)
                        refine ps_st (S' := (170, [(0, .ref m0), (1, .int (nI p))], [.ref m0], M1)) rfl rfl rfl ?_
                        refine ps_st (S' := (172, [(0, .ref m0), (1, .int (nI p))], [.int 21, .ref m0], M1)) rfl rfl rfl ?_
                        refine ps_st (S' := (173, [(0, .ref m0), (1, .int (nI p))], [.int (nI p), .int 21, .ref m0], M1)) rfl rfl rfl ?_
                        refine ps_st (S' := (174, [(0, .ref m0), (1, .int (nI p))], [.int 4, .int (nI p), .int 21, .ref m0], M1)) rfl rfl rfl ?_
                        refine ps_st (S' := (175, [(0, .ref m0), (1, .int (nI p))], [.int ((nI p) + 4), .int 21, .ref m0], M1)) rfl rfl rfl ?_
                        rw [nI_add1 (p := p) (k := 4) (x := 4) rfl (by omega)]
                        show pl _ _ _ (_, [(0, .ref m0), (1, .int (nI p))], [.int (nI (p + 4)), .int 21, .ref m0], M1) _
                        refine pl_call (a := [.ref m0, .int 21, .int (nI (p + 4))]) (rest := []) rfl rfl rfl (rd_wrong (x1 := 21) (x2 := (nI (p + 4))) hR1) (fun v334 M335 q336 => ?_)
                        obtain ⟨I337, R338, rfl, hR339, hI340, hX341, hi342, hi343⟩ := q336
                        have hi344 := (hI340 51 (by decide)).trans hl51
                        have hi345 := (hI340 52 (by decide)).trans hl52
                        have hi346 := (hI340 53 (by decide)).trans hl53
                        have hi347 := (hI340 58 (by decide)).trans hl58
                        have hi348 := (hI340 55 (by decide)).trans hl55
                        have hi349 := (hI340 25 (by decide)).trans hl25
                        have hF_350 := hF1.mono (cIx hI340 (by decide)) (cRx hX341 (by decide))
                        have hY_351 := hY1.mono (cIx hI340 (by decide)) (cRx hX341 (by decide))
                        have hP_352 := hP1.mono (cIx hI340 (by decide)) (cRx hX341 (by decide))
                        have hK_353 := hK1.mono (cIx hI340 (by decide)) (cRx hX341 (by decide))
                        have hN9_354 := hN91.mono (cIx hI340 (by decide)) (cRx hX341 (by decide))
                        have hQ_355 := hQ1.mono (cIx hI340 (by decide)) (cRx hX341 (by decide))
                        have hEI356 := hEI1.tr hI340 (by decide)
                        have hER357 := hER1.tr hX341 (by decide)
                        show pl _ _ _ (178, [(0, .ref m0), (1, .int (nI p))], [.int 0], M335) _
                        exact ps_ret rfl rfl (Or.inr ⟨(21, p + 4), I337, R338, by
                            rw [← hs, flS_st (i := k) (by omega), ← hpk, fh_21 (by have e1 := ffl_0 cf (by2 f p); have e2 := sev_0 (by2 f p); have e3 := hall_80 (by2 f p); omega) (by omega) (by rw [tx_no (by omega)]; decide)], rfl, hR339, hEI356, hER357, hi342, hi343⟩)
                      · have c_148 : ¬ (¬ (nI (tg f E (by2 f (p + 4)))) = 1) := of_decide_eq_false c_148
                        have n_148 : tg f E (by2 f (p + 4)) = 1 := (eq_nI (p := tg f E (by2 f (p + 4))) (n := 1) (Nat.lt_trans (tg_lt _ _ _) (by decide)) (by decide)).mp (Decidable.not_not.mp c_148)
                        refine ps_st (S' := (152, [(0, .ref m0), (1, .int (nI p)), (2, .int (nI (by2 f pF))), (3, .int (nI f0)), (4, .int (nI k)), (5, .int (nI (by2 f p)))], [.ref m0], M1)) rfl rfl rfl ?_
                        refine ps_st (S' := (153, [(0, .ref m0), (1, .int (nI p)), (2, .int (nI (by2 f pF))), (3, .int (nI f0)), (4, .int (nI k)), (5, .int (nI (by2 f p)))], [.ref m0, .ref m0], M1)) rfl rfl rfl ?_
                        refine ps_st (S' := (154, [(0, .ref m0), (1, .int (nI p)), (2, .int (nI (by2 f pF))), (3, .int (nI f0)), (4, .int (nI k)), (5, .int (nI (by2 f p)))], [.ref m0, .ref m0, .ref m0], M1)) rfl rfl rfl ?_
                        refine ps_st (S' := (155, [(0, .ref m0), (1, .int (nI p)), (2, .int (nI (by2 f pF))), (3, .int (nI f0)), (4, .int (nI k)), (5, .int (nI (by2 f p)))], [.int (nI p), .ref m0, .ref m0, .ref m0], M1)) rfl rfl rfl ?_
                        refine ps_st (S' := (156, [(0, .ref m0), (1, .int (nI p)), (2, .int (nI (by2 f pF))), (3, .int (nI f0)), (4, .int (nI k)), (5, .int (nI (by2 f p)))], [.int 4, .int (nI p), .ref m0, .ref m0, .ref m0], M1)) rfl rfl rfl ?_
                        refine ps_st (S' := (157, [(0, .ref m0), (1, .int (nI p)), (2, .int (nI (by2 f pF))), (3, .int (nI f0)), (4, .int (nI k)), (5, .int (nI (by2 f p)))], [.int ((nI p) + 4), .ref m0, .ref m0, .ref m0], M1)) rfl rfl rfl ?_
                        rw [nI_add1 (p := p) (k := 4) (x := 4) rfl (by omega)]
                        show pl _ _ _ (_, [(0, .ref m0), (1, .int (nI p)), (2, .int (nI (by2 f pF))), (3, .int (nI f0)), (4, .int (nI k)), (5, .int (nI (by2 f p)))], [.int (nI (p + 4)), .ref m0, .ref m0, .ref m0], M1) _
                        refine pl_call (a := [.ref m0, .int (nI (p + 4))]) (rest := [.ref m0, .ref m0]) rfl rfl rfl (rd_u2 (n := n) (f := f) (p := (p + 4)) hR1 hF1 (by omega)) (fun v358 M359 q360 => ?_)
                        obtain ⟨rfl, rfl⟩ := q360
                        show pl _ _ _ (160, [(0, .ref m0), (1, .int (nI p)), (2, .int (nI (by2 f pF))), (3, .int (nI f0)), (4, .int (nI k)), (5, .int (nI (by2 f p)))], [.int (nI (by2 f (p + 4))), .ref m0, .ref m0], M1) _
                        have hu_157 := by2_lt f (p + 4)
                        refine pl_call (a := [.ref m0, .int (nI (by2 f (p + 4)))]) (rest := [.ref m0]) rfl rfl rfl (rd_symOf (n := n) (f := f) (tx := tx) (cN := cN) (A := A) (N := N) (mj := mj) (E := E) (k := (by2 f (p + 4))) hR1 hl51 hl52 hl53 hF1 hY1 hP1 (hEP) (hN) (hmj) (by omega)) (fun v361 M362 q363 => ?_)
                        obtain ⟨s364, q160_s, rfl, rfl⟩ := q363
                        show pl _ _ _ (163, [(0, .ref m0), (1, .int (nI p)), (2, .int (nI (by2 f pF))), (3, .int (nI f0)), (4, .int (nI k)), (5, .int (nI (by2 f p)))], [.int (nI s364), .ref m0], M1) _
                        have hsl_160 := q160_s.1
                        have htl_160 := hY1.1.2.2.1
                        refine pl_call (a := [.ref m0, .int (nI s364)]) (rest := []) rfl rfl rfl (rd_isField (tx := tx) (cN := cN) (A := A) (s := s364) (l := (tX f n E (by2 f (p + 4)))) hR1 hY1 (q160_s)) (fun v365 M366 q367 => ?_)
                        obtain ⟨rfl, rfl⟩ := q367
                        show pl _ _ _ (166, [(0, .ref m0), (1, .int (nI p)), (2, .int (nI (by2 f pF))), (3, .int (nI f0)), (4, .int (nI k)), (5, .int (nI (by2 f p)))], [.int (nI (fldN (tX f n E (by2 f (p + 4)))))], M1) _
                        refine ps_if (S1 := (179, [(0, .ref m0), (1, .int (nI p)), (2, .int (nI (by2 f pF))), (3, .int (nI f0)), (4, .int (nI k)), (5, .int (nI (by2 f p)))], [], M1)) (S2 := (169, [(0, .ref m0), (1, .int (nI p))], [], M1)) rfl rfl rfl (fun c_166 => ?_) (fun c_166 => ?_)
                        · have c_166 : ¬ (nI (fldN (tX f n E (by2 f (p + 4))))) = 0 := of_decide_eq_true c_166
                          have n_166 : ¬ (fldN (tX f n E (by2 f (p + 4))) = 0) := fun h9 => c_166 ((eq_nI (p := fldN (tX f n E (by2 f (p + 4)))) (n := 0) (Nat.lt_trans (le1_fld _) (by decide)) (by decide)).mpr h9)
                          refine ps_st (S' := (180, [(0, .ref m0), (1, .int (nI p)), (2, .int (nI (by2 f pF))), (3, .int (nI f0)), (4, .int (nI k)), (5, .int (nI (by2 f p)))], [.ref m0], M1)) rfl rfl rfl ?_
                          refine pr_int (j := 25) (S' := (183, [(0, .ref m0), (1, .int (nI p)), (2, .int (nI (by2 f pF))), (3, .int (nI f0)), (4, .int (nI k)), (5, .int (nI (by2 f p)))], [.int (nI (f0 + k))], M1)) rfl hR1 rfl hl25 rfl ?_
                          refine ps_st (S' := (185, [(6, .int (nI (f0 + k))), (0, .ref m0), (1, .int (nI p)), (2, .int (nI (by2 f pF))), (3, .int (nI f0)), (4, .int (nI k)), (5, .int (nI (by2 f p)))], [], M1)) rfl rfl rfl ?_
                          refine ps_st (S' := (186, [(6, .int (nI (f0 + k))), (0, .ref m0), (1, .int (nI p)), (2, .int (nI (by2 f pF))), (3, .int (nI f0)), (4, .int (nI k)), (5, .int (nI (by2 f p)))], [.ref m0], M1)) rfl rfl rfl ?_
                          refine pr_ref (j := 27) (S' := (189, [(6, .int (nI (f0 + k))), (0, .ref m0), (1, .int (nI p)), (2, .int (nI (by2 f pF))), (3, .int (nI f0)), (4, .int (nI k)), (5, .int (nI (by2 f p)))], [.ref (q 27)], M1)) rfl hR1 rfl rfl ?_
                          refine ps_st (S' := (191, [(6, .int (nI (f0 + k))), (0, .ref m0), (1, .int (nI p)), (2, .int (nI (by2 f pF))), (3, .int (nI f0)), (4, .int (nI k)), (5, .int (nI (by2 f p)))], [.int (nI (f0 + k)), .ref (q 27)], M1)) rfl rfl rfl ?_
                          refine ps_st (S' := (193, [(6, .int (nI (f0 + k))), (0, .ref m0), (1, .int (nI p)), (2, .int (nI (by2 f pF))), (3, .int (nI f0)), (4, .int (nI k)), (5, .int (nI (by2 f p)))], [.int (nI (by2 f p)), .int (nI (f0 + k)), .ref (q 27)], M1)) rfl rfl rfl ?_
                          refine pr_st (a := 27) (j := f0 + k) rfl hR1 rfl (by omega) (fun M368 R369 i1_193 hR370 hS371 => ?_)
                          have hF_372 := hF1.mono (fun _ _ => rfl) (rRx hS371 (by decide))
                          have hY_373 := hY1.mono (fun _ _ => rfl) (rRx hS371 (by decide))
                          have hP_374 := hP1.mono (fun _ _ => rfl) (rRx hS371 (by decide))
                          have hK_375 := hK1.mono (fun _ _ => rfl) (rRx hS371 (by decide))
                          have hN9_376 := hN91.mono (fun _ _ => rfl) (rRx hS371 (by decide))
                          have hER377 := hER1.st hS371 (by decide)
                          show pl _ _ _ (194, [(6, .int (nI (f0 + k))), (0, .ref m0), (1, .int (nI p)), (2, .int (nI (by2 f pF))), (3, .int (nI f0)), (4, .int (nI k)), (5, .int (nI (by2 f p)))], [], M368) _
                          have c27_378 : CE 27 (f0 + k) (nI (by2 f p)) I1 R369 := CE.st hS371
                          have hQ_379 := FQ.st (I' := I1) hQ1 hS371 rfl
                          refine ps_st (S' := (195, [(6, .int (nI (f0 + k))), (0, .ref m0), (1, .int (nI p)), (2, .int (nI (by2 f pF))), (3, .int (nI f0)), (4, .int (nI k)), (5, .int (nI (by2 f p)))], [.ref m0], M368)) rfl rfl rfl ?_
                          refine pr_ref (j := 28) (S' := (198, [(6, .int (nI (f0 + k))), (0, .ref m0), (1, .int (nI p)), (2, .int (nI (by2 f pF))), (3, .int (nI f0)), (4, .int (nI k)), (5, .int (nI (by2 f p)))], [.ref (q 28)], M368)) rfl hR370 rfl rfl ?_
                          refine ps_st (S' := (200, [(6, .int (nI (f0 + k))), (0, .ref m0), (1, .int (nI p)), (2, .int (nI (by2 f pF))), (3, .int (nI f0)), (4, .int (nI k)), (5, .int (nI (by2 f p)))], [.int (nI (f0 + k)), .ref (q 28)], M368)) rfl rfl rfl ?_
                          refine ps_st (S' := (201, [(6, .int (nI (f0 + k))), (0, .ref m0), (1, .int (nI p)), (2, .int (nI (by2 f pF))), (3, .int (nI f0)), (4, .int (nI k)), (5, .int (nI (by2 f p)))], [.ref m0, .int (nI (f0 + k)), .ref (q 28)], M368)) rfl rfl rfl ?_
                          refine ps_st (S' := (202, [(6, .int (nI (f0 + k))), (0, .ref m0), (1, .int (nI p)), (2, .int (nI (by2 f pF))), (3, .int (nI f0)), (4, .int (nI k)), (5, .int (nI (by2 f p)))], [.ref m0, .ref m0, .int (nI (f0 + k)), .ref (q 28)], M368)) rfl rfl rfl ?_
                          refine ps_st (S' := (203, [(6, .int (nI (f0 + k))), (0, .ref m0), (1, .int (nI p)), (2, .int (nI (by2 f pF))), (3, .int (nI f0)), (4, .int (nI k)), (5, .int (nI (by2 f p)))], [.int (nI p), .ref m0, .ref m0, .int (nI (f0 + k)), .ref (q 28)], M368)) rfl rfl rfl ?_
                          refine ps_st (S' := (204, [(6, .int (nI (f0 + k))), (0, .ref m0), (1, .int (nI p)), (2, .int (nI (by2 f pF))), (3, .int (nI f0)), (4, .int (nI k)), (5, .int (nI (by2 f p)))], [.int 2, .int (nI p), .ref m0, .ref m0, .int (nI (f0 + k)), .ref (q 28)], M368)) rfl rfl rfl ?_
                          refine ps_st (S' := (205, [(6, .int (nI (f0 + k))), (0, .ref m0), (1, .int (nI p)), (2, .int (nI (by2 f pF))), (3, .int (nI f0)), (4, .int (nI k)), (5, .int (nI (by2 f p)))], [.int ((nI p) + 2), .ref m0, .ref m0, .int (nI (f0 + k)), .ref (q 28)], M368)) rfl rfl rfl ?_
                          rw [nI_add1 (p := p) (k := 2) (x := 2) rfl (by omega)]
                          show pl _ _ _ (_, [(6, .int (nI (f0 + k))), (0, .ref m0), (1, .int (nI p)), (2, .int (nI (by2 f pF))), (3, .int (nI f0)), (4, .int (nI k)), (5, .int (nI (by2 f p)))], [.int (nI (p + 2)), .ref m0, .ref m0, .int (nI (f0 + k)), .ref (q 28)], M368) _
                          refine pl_call (a := [.ref m0, .int (nI (p + 2))]) (rest := [.ref m0, .int (nI (f0 + k)), .ref (q 28)]) rfl rfl rfl (rd_u2 (n := n) (f := f) (p := (p + 2)) hR370 hF_372 (by omega)) (fun v380 M381 q382 => ?_)
                          obtain ⟨rfl, rfl⟩ := q382
                          show pl _ _ _ (208, [(6, .int (nI (f0 + k))), (0, .ref m0), (1, .int (nI p)), (2, .int (nI (by2 f pF))), (3, .int (nI f0)), (4, .int (nI k)), (5, .int (nI (by2 f p)))], [.int (nI (by2 f (p + 2))), .ref m0, .int (nI (f0 + k)), .ref (q 28)], M368) _
                          have hu_205 := by2_lt f (p + 2)
                          refine pl_call (a := [.ref m0, .int (nI (by2 f (p + 2)))]) (rest := [.int (nI (f0 + k)), .ref (q 28)]) rfl rfl rfl (rd_symOf (n := n) (f := f) (tx := tx) (cN := cN) (A := A) (N := N) (mj := mj) (E := E) (k := (by2 f (p + 2))) hR370 hl51 hl52 hl53 hF_372 hY_373 hP_374 (hEP) (hN) (hmj) (by omega)) (fun v383 M384 q385 => ?_)
                          obtain ⟨s386, q208_s, rfl, rfl⟩ := q385
                          show pl _ _ _ (211, [(6, .int (nI (f0 + k))), (0, .ref m0), (1, .int (nI p)), (2, .int (nI (by2 f pF))), (3, .int (nI f0)), (4, .int (nI k)), (5, .int (nI (by2 f p)))], [.int (nI s386), .int (nI (f0 + k)), .ref (q 28)], M368) _
                          have hsl_208 := q208_s.1
                          have htl_208 := hY_373.1.2.2.1
                          refine pr_st (a := 28) (j := f0 + k) rfl hR370 rfl (by omega) (fun M387 R388 i1_211 hR389 hS390 => ?_)
                          have hF_391 := hF_372.mono (fun _ _ => rfl) (rRx hS390 (by decide))
                          have hY_392 := hY_373.mono (fun _ _ => rfl) (rRx hS390 (by decide))
                          have hP_393 := hP_374.mono (fun _ _ => rfl) (rRx hS390 (by decide))
                          have hK_394 := hK_375.mono (fun _ _ => rfl) (rRx hS390 (by decide))
                          have c27_395 := c27_378.mono (fun _ _ => rfl) (rRx hS390 (by decide))
                          have hQ_396 := hQ_379.mono (fun _ _ => rfl) (rRx hS390 (by decide))
                          have hER397 := hER377.st hS390 (by decide)
                          show pl _ _ _ (212, [(6, .int (nI (f0 + k))), (0, .ref m0), (1, .int (nI p)), (2, .int (nI (by2 f pF))), (3, .int (nI f0)), (4, .int (nI k)), (5, .int (nI (by2 f p)))], [], M387) _
                          have c28_398 : CE 28 (f0 + k) (nI s386) I1 R388 := CE.st hS390
                          have hN9_399 := FN.st (I' := I1) hN9_376 hS390 rfl
                          refine ps_st (S' := (213, [(6, .int (nI (f0 + k))), (0, .ref m0), (1, .int (nI p)), (2, .int (nI (by2 f pF))), (3, .int (nI f0)), (4, .int (nI k)), (5, .int (nI (by2 f p)))], [.ref m0], M387)) rfl rfl rfl ?_
                          refine pr_ref (j := 29) (S' := (216, [(6, .int (nI (f0 + k))), (0, .ref m0), (1, .int (nI p)), (2, .int (nI (by2 f pF))), (3, .int (nI f0)), (4, .int (nI k)), (5, .int (nI (by2 f p)))], [.ref (q 29)], M387)) rfl hR389 rfl rfl ?_
                          refine ps_st (S' := (218, [(6, .int (nI (f0 + k))), (0, .ref m0), (1, .int (nI p)), (2, .int (nI (by2 f pF))), (3, .int (nI f0)), (4, .int (nI k)), (5, .int (nI (by2 f p)))], [.int (nI (f0 + k)), .ref (q 29)], M387)) rfl rfl rfl ?_
                          refine ps_st (S' := (219, [(6, .int (nI (f0 + k))), (0, .ref m0), (1, .int (nI p)), (2, .int (nI (by2 f pF))), (3, .int (nI f0)), (4, .int (nI k)), (5, .int (nI (by2 f p)))], [.ref m0, .int (nI (f0 + k)), .ref (q 29)], M387)) rfl rfl rfl ?_
                          refine ps_st (S' := (220, [(6, .int (nI (f0 + k))), (0, .ref m0), (1, .int (nI p)), (2, .int (nI (by2 f pF))), (3, .int (nI f0)), (4, .int (nI k)), (5, .int (nI (by2 f p)))], [.ref m0, .ref m0, .int (nI (f0 + k)), .ref (q 29)], M387)) rfl rfl rfl ?_
                          refine ps_st (S' := (221, [(6, .int (nI (f0 + k))), (0, .ref m0), (1, .int (nI p)), (2, .int (nI (by2 f pF))), (3, .int (nI f0)), (4, .int (nI k)), (5, .int (nI (by2 f p)))], [.int (nI p), .ref m0, .ref m0, .int (nI (f0 + k)), .ref (q 29)], M387)) rfl rfl rfl ?_
                          refine ps_st (S' := (222, [(6, .int (nI (f0 + k))), (0, .ref m0), (1, .int (nI p)), (2, .int (nI (by2 f pF))), (3, .int (nI f0)), (4, .int (nI k)), (5, .int (nI (by2 f p)))], [.int 4, .int (nI p), .ref m0, .ref m0, .int (nI (f0 + k)), .ref (q 29)], M387)) rfl rfl rfl ?_
                          refine ps_st (S' := (223, [(6, .int (nI (f0 + k))), (0, .ref m0), (1, .int (nI p)), (2, .int (nI (by2 f pF))), (3, .int (nI f0)), (4, .int (nI k)), (5, .int (nI (by2 f p)))], [.int ((nI p) + 4), .ref m0, .ref m0, .int (nI (f0 + k)), .ref (q 29)], M387)) rfl rfl rfl ?_
                          rw [nI_add1 (p := p) (k := 4) (x := 4) rfl (by omega)]
                          show pl _ _ _ (_, [(6, .int (nI (f0 + k))), (0, .ref m0), (1, .int (nI p)), (2, .int (nI (by2 f pF))), (3, .int (nI f0)), (4, .int (nI k)), (5, .int (nI (by2 f p)))], [.int (nI (p + 4)), .ref m0, .ref m0, .int (nI (f0 + k)), .ref (q 29)], M387) _
                          refine pl_call (a := [.ref m0, .int (nI (p + 4))]) (rest := [.ref m0, .int (nI (f0 + k)), .ref (q 29)]) rfl rfl rfl (rd_u2 (n := n) (f := f) (p := (p + 4)) hR389 hF_391 (by omega)) (fun v400 M401 q402 => ?_)
                          obtain ⟨rfl, rfl⟩ := q402
                          show pl _ _ _ (226, [(6, .int (nI (f0 + k))), (0, .ref m0), (1, .int (nI p)), (2, .int (nI (by2 f pF))), (3, .int (nI f0)), (4, .int (nI k)), (5, .int (nI (by2 f p)))], [.int (nI (by2 f (p + 4))), .ref m0, .int (nI (f0 + k)), .ref (q 29)], M387) _
                          have hu_223 := by2_lt f (p + 4)
                          refine pl_call (a := [.ref m0, .int (nI (by2 f (p + 4)))]) (rest := [.int (nI (f0 + k)), .ref (q 29)]) rfl rfl rfl (rd_symOf (n := n) (f := f) (tx := tx) (cN := cN) (A := A) (N := N) (mj := mj) (E := E) (k := (by2 f (p + 4))) hR389 hl51 hl52 hl53 hF_391 hY_392 hP_393 (hEP) (hN) (hmj) (by omega)) (fun v403 M404 q405 => ?_)
                          obtain ⟨s406, q226_s, rfl, rfl⟩ := q405
                          show pl _ _ _ (229, [(6, .int (nI (f0 + k))), (0, .ref m0), (1, .int (nI p)), (2, .int (nI (by2 f pF))), (3, .int (nI f0)), (4, .int (nI k)), (5, .int (nI (by2 f p)))], [.int (nI s406), .int (nI (f0 + k)), .ref (q 29)], M387) _
                          have hsl_226 := q226_s.1
                          have htl_226 := hY_392.1.2.2.1
                          refine pr_st (a := 29) (j := f0 + k) rfl hR389 rfl (by omega) (fun M407 R408 i1_229 hR409 hS410 => ?_)
                          have hF_411 := hF_391.mono (fun _ _ => rfl) (rRx hS410 (by decide))
                          have hY_412 := hY_392.mono (fun _ _ => rfl) (rRx hS410 (by decide))
                          have hP_413 := hP_393.mono (fun _ _ => rfl) (rRx hS410 (by decide))
                          have hK_414 := hK_394.mono (fun _ _ => rfl) (rRx hS410 (by decide))
                          have c27_415 := c27_395.mono (fun _ _ => rfl) (rRx hS410 (by decide))
                          have hQ_416 := hQ_396.mono (fun _ _ => rfl) (rRx hS410 (by decide))
                          have c28_417 := c28_398.mono (fun _ _ => rfl) (rRx hS410 (by decide))
                          have hER418 := hER397.st hS410 (by decide)
                          show pl _ _ _ (230, [(6, .int (nI (f0 + k))), (0, .ref m0), (1, .int (nI p)), (2, .int (nI (by2 f pF))), (3, .int (nI f0)), (4, .int (nI k)), (5, .int (nI (by2 f p)))], [], M407) _
                          have c29_419 : CE 29 (f0 + k) (nI s406) I1 R408 := CE.st hS410
                          have hN9_420 := FN.st (I' := I1) hN9_399 hS410 rfl
                          refine ps_st (S' := (231, [(6, .int (nI (f0 + k))), (0, .ref m0), (1, .int (nI p)), (2, .int (nI (by2 f pF))), (3, .int (nI f0)), (4, .int (nI k)), (5, .int (nI (by2 f p)))], [.ref m0], M407)) rfl rfl rfl ?_
                          refine pr_ref (j := 30) (S' := (234, [(6, .int (nI (f0 + k))), (0, .ref m0), (1, .int (nI p)), (2, .int (nI (by2 f pF))), (3, .int (nI f0)), (4, .int (nI k)), (5, .int (nI (by2 f p)))], [.ref (q 30)], M407)) rfl hR409 rfl rfl ?_
                          refine ps_st (S' := (236, [(6, .int (nI (f0 + k))), (0, .ref m0), (1, .int (nI p)), (2, .int (nI (by2 f pF))), (3, .int (nI f0)), (4, .int (nI k)), (5, .int (nI (by2 f p)))], [.int (nI (f0 + k)), .ref (q 30)], M407)) rfl rfl rfl ?_
                          refine ps_st (S' := (237, [(6, .int (nI (f0 + k))), (0, .ref m0), (1, .int (nI p)), (2, .int (nI (by2 f pF))), (3, .int (nI f0)), (4, .int (nI k)), (5, .int (nI (by2 f p)))], [.int 0, .int (nI (f0 + k)), .ref (q 30)], M407)) rfl rfl rfl ?_
                          refine pr_st (a := 30) (j := f0 + k) rfl hR409 rfl (by omega) (fun M421 R422 i1_237 hR423 hS424 => ?_)
                          have hF_425 := hF_411.mono (fun _ _ => rfl) (rRx hS424 (by decide))
                          have hY_426 := hY_412.mono (fun _ _ => rfl) (rRx hS424 (by decide))
                          have hP_427 := hP_413.mono (fun _ _ => rfl) (rRx hS424 (by decide))
                          have hK_428 := hK_414.mono (fun _ _ => rfl) (rRx hS424 (by decide))
                          have c27_429 := c27_415.mono (fun _ _ => rfl) (rRx hS424 (by decide))
                          have c28_430 := c28_417.mono (fun _ _ => rfl) (rRx hS424 (by decide))
                          have c29_431 := c29_419.mono (fun _ _ => rfl) (rRx hS424 (by decide))
                          have hN9_432 := hN9_420.mono (fun _ _ => rfl) (rRx hS424 (by decide))
                          have hER433 := hER418.st hS424 (by decide)
                          show pl _ _ _ (238, [(6, .int (nI (f0 + k))), (0, .ref m0), (1, .int (nI p)), (2, .int (nI (by2 f pF))), (3, .int (nI f0)), (4, .int (nI k)), (5, .int (nI (by2 f p)))], [], M421) _
                          have c30_434 : CE 30 (f0 + k) 0 I1 R422 := CE.st hS424
                          have hQ_435 := FQ.st (I' := I1) hQ_416 hS424 rfl
                          refine ps_st (S' := (239, [(6, .int (nI (f0 + k))), (0, .ref m0), (1, .int (nI p)), (2, .int (nI (by2 f pF))), (3, .int (nI f0)), (4, .int (nI k)), (5, .int (nI (by2 f p)))], [.ref m0], M421)) rfl rfl rfl ?_
                          refine pr_ref (j := 31) (S' := (242, [(6, .int (nI (f0 + k))), (0, .ref m0), (1, .int (nI p)), (2, .int (nI (by2 f pF))), (3, .int (nI f0)), (4, .int (nI k)), (5, .int (nI (by2 f p)))], [.ref (q 31)], M421)) rfl hR423 rfl rfl ?_
                          refine ps_st (S' := (244, [(6, .int (nI (f0 + k))), (0, .ref m0), (1, .int (nI p)), (2, .int (nI (by2 f pF))), (3, .int (nI f0)), (4, .int (nI k)), (5, .int (nI (by2 f p)))], [.int (nI (f0 + k)), .ref (q 31)], M421)) rfl rfl rfl ?_
                          refine ps_st (S' := (245, [(6, .int (nI (f0 + k))), (0, .ref m0), (1, .int (nI p)), (2, .int (nI (by2 f pF))), (3, .int (nI f0)), (4, .int (nI k)), (5, .int (nI (by2 f p)))], [.int 0, .int (nI (f0 + k)), .ref (q 31)], M421)) rfl rfl rfl ?_
                          refine pr_st (a := 31) (j := f0 + k) rfl hR423 rfl (by omega) (fun M436 R437 i1_245 hR438 hS439 => ?_)
                          have hF_440 := hF_425.mono (fun _ _ => rfl) (rRx hS439 (by decide))
                          have hY_441 := hY_426.mono (fun _ _ => rfl) (rRx hS439 (by decide))
                          have hP_442 := hP_427.mono (fun _ _ => rfl) (rRx hS439 (by decide))
                          have hK_443 := hK_428.mono (fun _ _ => rfl) (rRx hS439 (by decide))
                          have c27_444 := c27_429.mono (fun _ _ => rfl) (rRx hS439 (by decide))
                          have c28_445 := c28_430.mono (fun _ _ => rfl) (rRx hS439 (by decide))
                          have c29_446 := c29_431.mono (fun _ _ => rfl) (rRx hS439 (by decide))
                          have hN9_447 := hN9_432.mono (fun _ _ => rfl) (rRx hS439 (by decide))
                          have c30_448 := c30_434.mono (fun _ _ => rfl) (rRx hS439 (by decide))
                          have hER449 := hER433.st hS439 (by decide)
                          show pl _ _ _ (246, [(6, .int (nI (f0 + k))), (0, .ref m0), (1, .int (nI p)), (2, .int (nI (by2 f pF))), (3, .int (nI f0)), (4, .int (nI k)), (5, .int (nI (by2 f p)))], [], M436) _
                          have c31_450 : CE 31 (f0 + k) 0 I1 R437 := CE.st hS439
                          have hQ_451 := FQ.st (I' := I1) hQ_435 hS439 rfl
                          refine ps_st (S' := (247, [(6, .int (nI (f0 + k))), (0, .ref m0), (1, .int (nI p)), (2, .int (nI (by2 f pF))), (3, .int (nI f0)), (4, .int (nI k)), (5, .int (nI (by2 f p)))], [.ref m0], M436)) rfl rfl rfl ?_
                          refine pr_ref (j := 32) (S' := (250, [(6, .int (nI (f0 + k))), (0, .ref m0), (1, .int (nI p)), (2, .int (nI (by2 f pF))), (3, .int (nI f0)), (4, .int (nI k)), (5, .int (nI (by2 f p)))], [.ref (q 32)], M436)) rfl hR438 rfl rfl ?_
                          refine ps_st (S' := (252, [(6, .int (nI (f0 + k))), (0, .ref m0), (1, .int (nI p)), (2, .int (nI (by2 f pF))), (3, .int (nI f0)), (4, .int (nI k)), (5, .int (nI (by2 f p)))], [.int (nI (f0 + k)), .ref (q 32)], M436)) rfl rfl rfl ?_
                          refine ps_st (S' := (253, [(6, .int (nI (f0 + k))), (0, .ref m0), (1, .int (nI p)), (2, .int (nI (by2 f pF))), (3, .int (nI f0)), (4, .int (nI k)), (5, .int (nI (by2 f p)))], [.ref m0, .int (nI (f0 + k)), .ref (q 32)], M436)) rfl rfl rfl ?_
                          refine ps_st (S' := (254, [(6, .int (nI (f0 + k))), (0, .ref m0), (1, .int (nI p)), (2, .int (nI (by2 f pF))), (3, .int (nI f0)), (4, .int (nI k)), (5, .int (nI (by2 f p)))], [.int (nI p), .ref m0, .int (nI (f0 + k)), .ref (q 32)], M436)) rfl rfl rfl ?_
                          refine ps_st (S' := (255, [(6, .int (nI (f0 + k))), (0, .ref m0), (1, .int (nI p)), (2, .int (nI (by2 f pF))), (3, .int (nI f0)), (4, .int (nI k)), (5, .int (nI (by2 f p)))], [.int 2, .int (nI p), .ref m0, .int (nI (f0 + k)), .ref (q 32)], M436)) rfl rfl rfl ?_
                          refine ps_st (S' := (256, [(6, .int (nI (f0 + k))), (0, .ref m0), (1, .int (nI p)), (2, .int (nI (by2 f pF))), (3, .int (nI f0)), (4, .int (nI k)), (5, .int (nI (by2 f p)))], [.int ((nI p) + 2), .ref m0, .int (nI (f0 + k)), .ref (q 32)], M436)) rfl rfl rfl ?_
                          rw [nI_add1 (p := p) (k := 2) (x := 2) rfl (by omega)]
                          show pl _ _ _ (_, [(6, .int (nI (f0 + k))), (0, .ref m0), (1, .int (nI p)), (2, .int (nI (by2 f pF))), (3, .int (nI f0)), (4, .int (nI k)), (5, .int (nI (by2 f p)))], [.int (nI (p + 2)), .ref m0, .int (nI (f0 + k)), .ref (q 32)], M436) _
                          refine pl_call (a := [.ref m0, .int (nI (p + 2))]) (rest := [.int (nI (f0 + k)), .ref (q 32)]) rfl rfl rfl (rd_u2 (n := n) (f := f) (p := (p + 2)) hR438 hF_440 (by omega)) (fun v452 M453 q454 => ?_)
                          obtain ⟨rfl, rfl⟩ := q454
                          show pl _ _ _ (259, [(6, .int (nI (f0 + k))), (0, .ref m0), (1, .int (nI p)), (2, .int (nI (by2 f pF))), (3, .int (nI f0)), (4, .int (nI k)), (5, .int (nI (by2 f p)))], [.int (nI (by2 f (p + 2))), .int (nI (f0 + k)), .ref (q 32)], M436) _
                          have hu_256 := by2_lt f (p + 2)
                          refine pr_st (a := 32) (j := f0 + k) rfl hR438 rfl (by omega) (fun M455 R456 i1_259 hR457 hS458 => ?_)
                          have hF_459 := hF_440.mono (fun _ _ => rfl) (rRx hS458 (by decide))
                          have hY_460 := hY_441.mono (fun _ _ => rfl) (rRx hS458 (by decide))
                          have hP_461 := hP_442.mono (fun _ _ => rfl) (rRx hS458 (by decide))
                          have hK_462 := hK_443.mono (fun _ _ => rfl) (rRx hS458 (by decide))
                          have c27_463 := c27_444.mono (fun _ _ => rfl) (rRx hS458 (by decide))
                          have c28_464 := c28_445.mono (fun _ _ => rfl) (rRx hS458 (by decide))
                          have c29_465 := c29_446.mono (fun _ _ => rfl) (rRx hS458 (by decide))
                          have hN9_466 := hN9_447.mono (fun _ _ => rfl) (rRx hS458 (by decide))
                          have c30_467 := c30_448.mono (fun _ _ => rfl) (rRx hS458 (by decide))
                          have c31_468 := c31_450.mono (fun _ _ => rfl) (rRx hS458 (by decide))
                          have hER469 := hER449.st hS458 (by decide)
                          show pl _ _ _ (260, [(6, .int (nI (f0 + k))), (0, .ref m0), (1, .int (nI p)), (2, .int (nI (by2 f pF))), (3, .int (nI f0)), (4, .int (nI k)), (5, .int (nI (by2 f p)))], [], M455) _
                          have c32_470 : CE 32 (f0 + k) (nI (by2 f (p + 2))) I1 R456 := CE.st hS458
                          have hQ_471 := FQ.st (I' := I1) hQ_451 hS458 rfl
                          refine ps_st (S' := (261, [(6, .int (nI (f0 + k))), (0, .ref m0), (1, .int (nI p)), (2, .int (nI (by2 f pF))), (3, .int (nI f0)), (4, .int (nI k)), (5, .int (nI (by2 f p)))], [.ref m0], M455)) rfl rfl rfl ?_
                          refine pr_ref (j := 33) (S' := (264, [(6, .int (nI (f0 + k))), (0, .ref m0), (1, .int (nI p)), (2, .int (nI (by2 f pF))), (3, .int (nI f0)), (4, .int (nI k)), (5, .int (nI (by2 f p)))], [.ref (q 33)], M455)) rfl hR457 rfl rfl ?_
                          refine ps_st (S' := (266, [(6, .int (nI (f0 + k))), (0, .ref m0), (1, .int (nI p)), (2, .int (nI (by2 f pF))), (3, .int (nI f0)), (4, .int (nI k)), (5, .int (nI (by2 f p)))], [.int (nI (f0 + k)), .ref (q 33)], M455)) rfl rfl rfl ?_
                          refine ps_st (S' := (267, [(6, .int (nI (f0 + k))), (0, .ref m0), (1, .int (nI p)), (2, .int (nI (by2 f pF))), (3, .int (nI f0)), (4, .int (nI k)), (5, .int (nI (by2 f p)))], [.ref m0, .int (nI (f0 + k)), .ref (q 33)], M455)) rfl rfl rfl ?_
                          refine ps_st (S' := (268, [(6, .int (nI (f0 + k))), (0, .ref m0), (1, .int (nI p)), (2, .int (nI (by2 f pF))), (3, .int (nI f0)), (4, .int (nI k)), (5, .int (nI (by2 f p)))], [.int (nI p), .ref m0, .int (nI (f0 + k)), .ref (q 33)], M455)) rfl rfl rfl ?_
                          refine ps_st (S' := (269, [(6, .int (nI (f0 + k))), (0, .ref m0), (1, .int (nI p)), (2, .int (nI (by2 f pF))), (3, .int (nI f0)), (4, .int (nI k)), (5, .int (nI (by2 f p)))], [.int 4, .int (nI p), .ref m0, .int (nI (f0 + k)), .ref (q 33)], M455)) rfl rfl rfl ?_
                          refine ps_st (S' := (270, [(6, .int (nI (f0 + k))), (0, .ref m0), (1, .int (nI p)), (2, .int (nI (by2 f pF))), (3, .int (nI f0)), (4, .int (nI k)), (5, .int (nI (by2 f p)))], [.int ((nI p) + 4), .ref m0, .int (nI (f0 + k)), .ref (q 33)], M455)) rfl rfl rfl ?_
                          rw [nI_add1 (p := p) (k := 4) (x := 4) rfl (by omega)]
                          show pl _ _ _ (_, [(6, .int (nI (f0 + k))), (0, .ref m0), (1, .int (nI p)), (2, .int (nI (by2 f pF))), (3, .int (nI f0)), (4, .int (nI k)), (5, .int (nI (by2 f p)))], [.int (nI (p + 4)), .ref m0, .int (nI (f0 + k)), .ref (q 33)], M455) _
                          refine pl_call (a := [.ref m0, .int (nI (p + 4))]) (rest := [.int (nI (f0 + k)), .ref (q 33)]) rfl rfl rfl (rd_u2 (n := n) (f := f) (p := (p + 4)) hR457 hF_459 (by omega)) (fun v472 M473 q474 => ?_)
                          obtain ⟨rfl, rfl⟩ := q474
                          show pl _ _ _ (273, [(6, .int (nI (f0 + k))), (0, .ref m0), (1, .int (nI p)), (2, .int (nI (by2 f pF))), (3, .int (nI f0)), (4, .int (nI k)), (5, .int (nI (by2 f p)))], [.int (nI (by2 f (p + 4))), .int (nI (f0 + k)), .ref (q 33)], M455) _
                          have hu_270 := by2_lt f (p + 4)
                          refine pr_st (a := 33) (j := f0 + k) rfl hR457 rfl (by omega) (fun M475 R476 i1_273 hR477 hS478 => ?_)
                          have hF_479 := hF_459.mono (fun _ _ => rfl) (rRx hS478 (by decide))
                          have hY_480 := hY_460.mono (fun _ _ => rfl) (rRx hS478 (by decide))
                          have hP_481 := hP_461.mono (fun _ _ => rfl) (rRx hS478 (by decide))
                          have hK_482 := hK_462.mono (fun _ _ => rfl) (rRx hS478 (by decide))
                          have c27_483 := c27_463.mono (fun _ _ => rfl) (rRx hS478 (by decide))
                          have c28_484 := c28_464.mono (fun _ _ => rfl) (rRx hS478 (by decide))
                          have c29_485 := c29_465.mono (fun _ _ => rfl) (rRx hS478 (by decide))
                          have hN9_486 := hN9_466.mono (fun _ _ => rfl) (rRx hS478 (by decide))
                          have c30_487 := c30_467.mono (fun _ _ => rfl) (rRx hS478 (by decide))
                          have c31_488 := c31_468.mono (fun _ _ => rfl) (rRx hS478 (by decide))
                          have c32_489 := c32_470.mono (fun _ _ => rfl) (rRx hS478 (by decide))
                          have hER490 := hER469.st hS478 (by decide)
                          show pl _ _ _ (274, [(6, .int (nI (f0 + k))), (0, .ref m0), (1, .int (nI p)), (2, .int (nI (by2 f pF))), (3, .int (nI f0)), (4, .int (nI k)), (5, .int (nI (by2 f p)))], [], M475) _
                          have c33_491 : CE 33 (f0 + k) (nI (by2 f (p + 4))) I1 R476 := CE.st hS478
                          have hQ_492 := FQ.st (I' := I1) hQ_471 hS478 rfl
                          refine ps_st (S' := (275, [(6, .int (nI (f0 + k))), (0, .ref m0), (1, .int (nI p)), (2, .int (nI (by2 f pF))), (3, .int (nI f0)), (4, .int (nI k)), (5, .int (nI (by2 f p)))], [.int (nI f0)], M475)) rfl rfl rfl ?_
                          refine ps_st (S' := (277, [(0, .ref m0), (1, .int (nI p)), (2, .int (nI (by2 f pF))), (3, .int (nI f0)), (4, .int (nI k)), (6, .int (nI (f0 + k))), (7, .int (nI f0))], [], M475)) rfl rfl rfl ?_
                          have h19 : ¬ fflN cf (by2 f p) = 0 := by
                            have e1 := ffl_0 cf (by2 f p)
                            have e2 := sev_0 (by2 f p)
                            have e3 := hall_80 (by2 f p)
                            omega
                          exact ih.2 (k) (p) (0) (s386) (s406) M475 I1 R476 hR477 hEI1 hER490 hl51 hl52 hl53 hl58 hl55 hl25 hF_479 hY_480 hP_481 hK_482 hN9_486 c27_483 c28_484 c29_485 hQ_492 c30_487 c31_488 c32_489 c33_491 (by omega) (hpk) (by omega) (hs) (by omega) (by omega) (q208_s) (q226_s) (by omega) (by omega) (h19) (by omega) (by omega) (rfl)
                        · have c_166 : ¬ (¬ (nI (fldN (tX f n E (by2 f (p + 4))))) = 0) := of_decide_eq_false c_166
                          have n_166 : fldN (tX f n E (by2 f (p + 4))) = 0 := (eq_nI (p := fldN (tX f n E (by2 f (p + 4)))) (n := 0) (Nat.lt_trans (le1_fld _) (by decide)) (by decide)).mp (Decidable.not_not.mp c_166)
                          refine ps_st (S' := (170, [(0, .ref m0), (1, .int (nI p))], [.ref m0], M1)) rfl rfl rfl ?_
                          refine ps_st (S' := (172, [(0, .ref m0), (1, .int (nI p))], [.int 21, .ref m0], M1)) rfl rfl rfl ?_
                          refine ps_st (S' := (173, [(0, .ref m0), (1, .int (nI p))], [.int (nI p), .int 21, .ref m0], M1)) rfl rfl rfl ?_
                          refine ps_st (S' := (174, [(0, .ref m0), (1, .int (nI p))], [.int 4, .int (nI p), .int 21, .ref m0], M1)) rfl rfl rfl ?_
                          refine ps_st (S' := (175, [(0, .ref m0), (1, .int (nI p))], [.int ((nI p) + 4), .int 21, .ref m0], M1)) rfl rfl rfl ?_
                          rw [nI_add1 (p := p) (k := 4) (x := 4) rfl (by omega)]
                          show pl _ _ _ (_, [(0, .ref m0), (1, .int (nI p))], [.int (nI (p + 4)), .int 21, .ref m0], M1) _
                          refine pl_call (a := [.ref m0, .int 21, .int (nI (p + 4))]) (rest := []) rfl rfl rfl (rd_wrong (x1 := 21) (x2 := (nI (p + 4))) hR1) (fun v493 M494 q495 => ?_)
                          obtain ⟨I496, R497, rfl, hR498, hI499, hX500, hi501, hi502⟩ := q495
                          have hi503 := (hI499 51 (by decide)).trans hl51
                          have hi504 := (hI499 52 (by decide)).trans hl52
                          have hi505 := (hI499 53 (by decide)).trans hl53
                          have hi506 := (hI499 58 (by decide)).trans hl58
                          have hi507 := (hI499 55 (by decide)).trans hl55
                          have hi508 := (hI499 25 (by decide)).trans hl25
                          have hF_509 := hF1.mono (cIx hI499 (by decide)) (cRx hX500 (by decide))
                          have hY_510 := hY1.mono (cIx hI499 (by decide)) (cRx hX500 (by decide))
                          have hP_511 := hP1.mono (cIx hI499 (by decide)) (cRx hX500 (by decide))
                          have hK_512 := hK1.mono (cIx hI499 (by decide)) (cRx hX500 (by decide))
                          have hN9_513 := hN91.mono (cIx hI499 (by decide)) (cRx hX500 (by decide))
                          have hQ_514 := hQ1.mono (cIx hI499 (by decide)) (cRx hX500 (by decide))
                          have hEI515 := hEI1.tr hI499 (by decide)
                          have hER516 := hER1.tr hX500 (by decide)
                          show pl _ _ _ (178, [(0, .ref m0), (1, .int (nI p))], [.int 0], M494) _
                          exact ps_ret rfl rfl (Or.inr ⟨(21, p + 4), I496, R497, by
                              rw [← hs, flS_st (i := k) (by omega), ← hpk, fh_21 (by have e1 := ffl_0 cf (by2 f p); have e2 := sev_0 (by2 f p); have e3 := hall_80 (by2 f p); omega) (by omega) (by omega)], rfl, hR498, hEI515, hER516, hi501, hi502⟩)
                    · have c_123 : ¬ (¬ (nI (unqN (tX f n E (by2 f (p + 2))))) = 0) := of_decide_eq_false c_123
                      have n_123 : unqN (tX f n E (by2 f (p + 2))) = 0 := (eq_nI (p := unqN (tX f n E (by2 f (p + 2)))) (n := 0) (Nat.lt_trans (le1_unq _) (by decide)) (by decide)).mp (Decidable.not_not.mp c_123)
                      refine ps_st (S' := (127, [(0, .ref m0), (1, .int (nI p))], [.ref m0], M1)) rfl rfl rfl ?_
                      refine ps_st (S' := (129, [(0, .ref m0), (1, .int (nI p))], [.int 20, .ref m0], M1)) rfl rfl rfl ?_
                      refine ps_st (S' := (130, [(0, .ref m0), (1, .int (nI p))], [.int (nI p), .int 20, .ref m0], M1)) rfl rfl rfl ?_
                      refine ps_st (S' := (131, [(0, .ref m0), (1, .int (nI p))], [.int 2, .int (nI p), .int 20, .ref m0], M1)) rfl rfl rfl ?_
                      refine ps_st (S' := (132, [(0, .ref m0), (1, .int (nI p))], [.int ((nI p) + 2), .int 20, .ref m0], M1)) rfl rfl rfl ?_
                      rw [nI_add1 (p := p) (k := 2) (x := 2) rfl (by omega)]
                      show pl _ _ _ (_, [(0, .ref m0), (1, .int (nI p))], [.int (nI (p + 2)), .int 20, .ref m0], M1) _
                      refine pl_call (a := [.ref m0, .int 20, .int (nI (p + 2))]) (rest := []) rfl rfl rfl (rd_wrong (x1 := 20) (x2 := (nI (p + 2))) hR1) (fun v517 M518 q519 => ?_)
                      obtain ⟨I520, R521, rfl, hR522, hI523, hX524, hi525, hi526⟩ := q519
                      have hi527 := (hI523 51 (by decide)).trans hl51
                      have hi528 := (hI523 52 (by decide)).trans hl52
                      have hi529 := (hI523 53 (by decide)).trans hl53
                      have hi530 := (hI523 58 (by decide)).trans hl58
                      have hi531 := (hI523 55 (by decide)).trans hl55
                      have hi532 := (hI523 25 (by decide)).trans hl25
                      have hF_533 := hF1.mono (cIx hI523 (by decide)) (cRx hX524 (by decide))
                      have hY_534 := hY1.mono (cIx hI523 (by decide)) (cRx hX524 (by decide))
                      have hP_535 := hP1.mono (cIx hI523 (by decide)) (cRx hX524 (by decide))
                      have hK_536 := hK1.mono (cIx hI523 (by decide)) (cRx hX524 (by decide))
                      have hN9_537 := hN91.mono (cIx hI523 (by decide)) (cRx hX524 (by decide))
                      have hQ_538 := hQ1.mono (cIx hI523 (by decide)) (cRx hX524 (by decide))
                      have hEI539 := hEI1.tr hI523 (by decide)
                      have hER540 := hER1.tr hX524 (by decide)
                      show pl _ _ _ (135, [(0, .ref m0), (1, .int (nI p))], [.int 0], M518) _
                      exact ps_ret rfl rfl (Or.inr ⟨(20, p + 2), I520, R521, by
                          rw [← hs, flS_st (i := k) (by omega), ← hpk, fh_20 (by have e1 := ffl_0 cf (by2 f p); have e2 := sev_0 (by2 f p); have e3 := hall_80 (by2 f p); omega) (by omega)], rfl, hR522, hEI539, hER540, hi525, hi526⟩)
                · have c_81 : ¬ ((nI (aN (by2 f p) 16607)) = 25) := of_decide_eq_false c_81
                  have n_81 : ¬ (aN (by2 f p) 16607 = 25) := fun h9 => c_81 ((eq_nI (p := aN (by2 f p) 16607) (n := 25) (Nat.lt_of_le_of_lt (an_le _ _) (by decide)) (by decide)).mpr h9)
                  refine ps_st (S' := (85, [(0, .ref m0), (1, .int (nI p))], [.ref m0], M1)) rfl rfl rfl ?_
                  refine ps_st (S' := (87, [(0, .ref m0), (1, .int (nI p))], [.int 19, .ref m0], M1)) rfl rfl rfl ?_
                  refine ps_st (S' := (88, [(0, .ref m0), (1, .int (nI p))], [.int (nI p), .int 19, .ref m0], M1)) rfl rfl rfl ?_
                  refine pl_call (a := [.ref m0, .int 19, .int (nI p)]) (rest := []) rfl rfl rfl (rd_wrong (x1 := 19) (x2 := (nI p)) hR1) (fun v541 M542 q543 => ?_)
                  obtain ⟨I544, R545, rfl, hR546, hI547, hX548, hi549, hi550⟩ := q543
                  have hi551 := (hI547 51 (by decide)).trans hl51
                  have hi552 := (hI547 52 (by decide)).trans hl52
                  have hi553 := (hI547 53 (by decide)).trans hl53
                  have hi554 := (hI547 58 (by decide)).trans hl58
                  have hi555 := (hI547 55 (by decide)).trans hl55
                  have hi556 := (hI547 25 (by decide)).trans hl25
                  have hF_557 := hF1.mono (cIx hI547 (by decide)) (cRx hX548 (by decide))
                  have hY_558 := hY1.mono (cIx hI547 (by decide)) (cRx hX548 (by decide))
                  have hP_559 := hP1.mono (cIx hI547 (by decide)) (cRx hX548 (by decide))
                  have hK_560 := hK1.mono (cIx hI547 (by decide)) (cRx hX548 (by decide))
                  have hN9_561 := hN91.mono (cIx hI547 (by decide)) (cRx hX548 (by decide))
                  have hQ_562 := hQ1.mono (cIx hI547 (by decide)) (cRx hX548 (by decide))
                  have hEI563 := hEI1.tr hI547 (by decide)
                  have hER564 := hER1.tr hX548 (by decide)
                  show pl _ _ _ (91, [(0, .ref m0), (1, .int (nI p))], [.int 0], M542) _
                  exact ps_ret rfl rfl (Or.inr ⟨(19, p), I544, R545, by
                      rw [← hs, flS_st (i := k) (by omega), ← hpk, fh_19 (by have e1 := ffl_0 cf (by2 f p); have e2 := sev_0 (by2 f p); have e3 := hall_80 (by2 f p); omega)], rfl, hR546, hEI563, hER564, hi549, hi550⟩)
            · have c_51 : ¬ ((nI (aN (by2 f p) 16)) = 0) := of_decide_eq_false c_51
              have n_51 : ¬ (aN (by2 f p) 16 = 0) := fun h9 => c_51 ((eq_nI (p := aN (by2 f p) 16) (n := 0) (Nat.lt_of_le_of_lt (an_le _ _) (by decide)) (by decide)).mpr h9)
              refine ps_st (S' := (56, [(5, .int (nI (by2 f p))), (0, .ref m0), (1, .int (nI p)), (2, .int (nI (by2 f pF))), (3, .int (nI f0)), (4, .int (nI k))], [.int (nI (by2 f p))], M1)) rfl rfl rfl ?_
              refine ps_st (S' := (58, [(5, .int (nI (by2 f p))), (0, .ref m0), (1, .int (nI p)), (2, .int (nI (by2 f pF))), (3, .int (nI f0)), (4, .int (nI k))], [.int 64, .int (nI (by2 f p))], M1)) rfl rfl rfl ?_
              refine ps_st (S' := (59, [(5, .int (nI (by2 f p))), (0, .ref m0), (1, .int (nI p)), (2, .int (nI (by2 f pF))), (3, .int (nI f0)), (4, .int (nI k))], [.int ((nI (by2 f p)) &&& 64)], M1)) rfl rfl rfl ?_
              rw [nI_an (p := by2 f p) (k := 64) (x := 64) rfl]
              show pl _ _ _ (_, [(5, .int (nI (by2 f p))), (0, .ref m0), (1, .int (nI p)), (2, .int (nI (by2 f pF))), (3, .int (nI f0)), (4, .int (nI k))], [.int (nI (aN (by2 f p) 64))], M1) _
              refine ps_if (S1 := (84, [(0, .ref m0), (1, .int (nI p))], [], M1)) (S2 := (62, [(0, .ref m0), (1, .int (nI p)), (2, .int (nI (by2 f pF))), (3, .int (nI f0)), (4, .int (nI k)), (5, .int (nI (by2 f p)))], [], M1)) rfl rfl rfl (fun c_59 => ?_) (fun c_59 => ?_)
              · have c_59 : ¬ (nI (aN (by2 f p) 64)) = 0 := of_decide_eq_true c_59
                have n_59 : ¬ (aN (by2 f p) 64 = 0) := fun h9 => c_59 ((eq_nI (p := aN (by2 f p) 64) (n := 0) (Nat.lt_of_le_of_lt (an_le _ _) (by decide)) (by decide)).mpr h9)
                refine ps_st (S' := (85, [(0, .ref m0), (1, .int (nI p))], [.ref m0], M1)) rfl rfl rfl ?_
                refine ps_st (S' := (87, [(0, .ref m0), (1, .int (nI p))], [.int 19, .ref m0], M1)) rfl rfl rfl ?_
                refine ps_st (S' := (88, [(0, .ref m0), (1, .int (nI p))], [.int (nI p), .int 19, .ref m0], M1)) rfl rfl rfl ?_
                refine pl_call (a := [.ref m0, .int 19, .int (nI p)]) (rest := []) rfl rfl rfl (rd_wrong (x1 := 19) (x2 := (nI p)) hR1) (fun v565 M566 q567 => ?_)
                obtain ⟨I568, R569, rfl, hR570, hI571, hX572, hi573, hi574⟩ := q567
                have hi575 := (hI571 51 (by decide)).trans hl51
                have hi576 := (hI571 52 (by decide)).trans hl52
                have hi577 := (hI571 53 (by decide)).trans hl53
                have hi578 := (hI571 58 (by decide)).trans hl58
                have hi579 := (hI571 55 (by decide)).trans hl55
                have hi580 := (hI571 25 (by decide)).trans hl25
                have hF_581 := hF1.mono (cIx hI571 (by decide)) (cRx hX572 (by decide))
                have hY_582 := hY1.mono (cIx hI571 (by decide)) (cRx hX572 (by decide))
                have hP_583 := hP1.mono (cIx hI571 (by decide)) (cRx hX572 (by decide))
                have hK_584 := hK1.mono (cIx hI571 (by decide)) (cRx hX572 (by decide))
                have hN9_585 := hN91.mono (cIx hI571 (by decide)) (cRx hX572 (by decide))
                have hQ_586 := hQ1.mono (cIx hI571 (by decide)) (cRx hX572 (by decide))
                have hEI587 := hEI1.tr hI571 (by decide)
                have hER588 := hER1.tr hX572 (by decide)
                show pl _ _ _ (91, [(0, .ref m0), (1, .int (nI p))], [.int 0], M566) _
                exact ps_ret rfl rfl (Or.inr ⟨(19, p), I568, R569, by
                    rw [← hs, flS_st (i := k) (by omega), ← hpk, fh_19 (by have e1 := ffl_0 cf (by2 f p); have e2 := sev_0 (by2 f p); have e3 := hall_80 (by2 f p); omega)], rfl, hR570, hEI587, hER588, hi573, hi574⟩)
              · have c_59 : ¬ (¬ (nI (aN (by2 f p) 64)) = 0) := of_decide_eq_false c_59
                have n_59 : aN (by2 f p) 64 = 0 := (eq_nI (p := aN (by2 f p) 64) (n := 0) (Nat.lt_of_le_of_lt (an_le _ _) (by decide)) (by decide)).mp (Decidable.not_not.mp c_59)
                refine ps_st (S' := (63, [(0, .ref m0), (1, .int (nI p)), (2, .int (nI (by2 f pF))), (3, .int (nI f0)), (4, .int (nI k)), (5, .int (nI (by2 f p)))], [.ref m0], M1)) rfl rfl rfl ?_
                refine pr_int (j := 58) (S' := (66, [(0, .ref m0), (1, .int (nI p)), (2, .int (nI (by2 f pF))), (3, .int (nI f0)), (4, .int (nI k)), (5, .int (nI (by2 f p)))], [.int (nI cf)], M1)) rfl hR1 rfl hl58 rfl ?_
                refine ps_st (S' := (69, [(0, .ref m0), (1, .int (nI p)), (2, .int (nI (by2 f pF))), (3, .int (nI f0)), (4, .int (nI k)), (5, .int (nI (by2 f p)))], [.int 512, .int (nI cf)], M1)) rfl rfl rfl ?_
                refine ps_st (S' := (70, [(0, .ref m0), (1, .int (nI p)), (2, .int (nI (by2 f pF))), (3, .int (nI f0)), (4, .int (nI k)), (5, .int (nI (by2 f p)))], [.int ((nI cf) &&& 512)], M1)) rfl rfl rfl ?_
                rw [nI_an (p := cf) (k := 512) (x := 512) rfl]
                show pl _ _ _ (_, [(0, .ref m0), (1, .int (nI p)), (2, .int (nI (by2 f pF))), (3, .int (nI f0)), (4, .int (nI k)), (5, .int (nI (by2 f p)))], [.int (nI (aN cf 512))], M1) _
                refine ps_if (S1 := (92, [(0, .ref m0), (1, .int (nI p)), (2, .int (nI (by2 f pF))), (3, .int (nI f0)), (4, .int (nI k)), (5, .int (nI (by2 f p)))], [], M1)) (S2 := (73, [(0, .ref m0), (1, .int (nI p)), (2, .int (nI (by2 f pF))), (3, .int (nI f0)), (4, .int (nI k)), (5, .int (nI (by2 f p)))], [], M1)) rfl rfl rfl (fun c_70 => ?_) (fun c_70 => ?_)
                · have c_70 : (nI (aN cf 512)) = 0 := of_decide_eq_true c_70
                  have n_70 : aN cf 512 = 0 := (eq_nI (p := aN cf 512) (n := 0) (Nat.lt_of_le_of_lt (an_le _ _) (by decide)) (by decide)).mp c_70
                  refine ps_st (S' := (93, [(0, .ref m0), (1, .int (nI p)), (2, .int (nI (by2 f pF))), (3, .int (nI f0)), (4, .int (nI k)), (5, .int (nI (by2 f p)))], [.ref m0], M1)) rfl rfl rfl ?_
                  refine ps_st (S' := (94, [(0, .ref m0), (1, .int (nI p)), (2, .int (nI (by2 f pF))), (3, .int (nI f0)), (4, .int (nI k)), (5, .int (nI (by2 f p)))], [.ref m0, .ref m0], M1)) rfl rfl rfl ?_
                  refine ps_st (S' := (95, [(0, .ref m0), (1, .int (nI p)), (2, .int (nI (by2 f pF))), (3, .int (nI f0)), (4, .int (nI k)), (5, .int (nI (by2 f p)))], [.int (nI p), .ref m0, .ref m0], M1)) rfl rfl rfl ?_
                  refine ps_st (S' := (96, [(0, .ref m0), (1, .int (nI p)), (2, .int (nI (by2 f pF))), (3, .int (nI f0)), (4, .int (nI k)), (5, .int (nI (by2 f p)))], [.int 2, .int (nI p), .ref m0, .ref m0], M1)) rfl rfl rfl ?_
                  refine ps_st (S' := (97, [(0, .ref m0), (1, .int (nI p)), (2, .int (nI (by2 f pF))), (3, .int (nI f0)), (4, .int (nI k)), (5, .int (nI (by2 f p)))], [.int ((nI p) + 2), .ref m0, .ref m0], M1)) rfl rfl rfl ?_
                  rw [nI_add1 (p := p) (k := 2) (x := 2) rfl (by omega)]
                  show pl _ _ _ (_, [(0, .ref m0), (1, .int (nI p)), (2, .int (nI (by2 f pF))), (3, .int (nI f0)), (4, .int (nI k)), (5, .int (nI (by2 f p)))], [.int (nI (p + 2)), .ref m0, .ref m0], M1) _
                  refine pl_call (a := [.ref m0, .int (nI (p + 2))]) (rest := [.ref m0]) rfl rfl rfl (rd_u2 (n := n) (f := f) (p := (p + 2)) hR1 hF1 (by omega)) (fun v589 M590 q591 => ?_)
                  obtain ⟨rfl, rfl⟩ := q591
                  show pl _ _ _ (100, [(0, .ref m0), (1, .int (nI p)), (2, .int (nI (by2 f pF))), (3, .int (nI f0)), (4, .int (nI k)), (5, .int (nI (by2 f p)))], [.int (nI (by2 f (p + 2))), .ref m0], M1) _
                  have hu_97 := by2_lt f (p + 2)
                  refine pl_call (a := [.ref m0, .int (nI (by2 f (p + 2)))]) (rest := []) rfl rfl rfl (rd_tag (n := n) (f := f) (tx := tx) (cN := cN) (A := A) (N := N) (mj := mj) (E := E) (k := (by2 f (p + 2))) hR1 hl51 hl52 hl53 hF1 hY1 hP1 (hEP) (hN) (hmj) (by2_lt _ _)) (fun v592 M593 q594 => ?_)
                  obtain ⟨rfl, rfl⟩ := q594
                  show pl _ _ _ (103, [(0, .ref m0), (1, .int (nI p)), (2, .int (nI (by2 f pF))), (3, .int (nI f0)), (4, .int (nI k)), (5, .int (nI (by2 f p)))], [.int (nI (tg f E (by2 f (p + 2))))], M1) _
                  have htg_100 := tg_lt f E (by2 f (p + 2))
                  refine ps_st (S' := (104, [(0, .ref m0), (1, .int (nI p)), (2, .int (nI (by2 f pF))), (3, .int (nI f0)), (4, .int (nI k)), (5, .int (nI (by2 f p)))], [.int 1, .int (nI (tg f E (by2 f (p + 2))))], M1)) rfl rfl rfl ?_
                  refine ps_if2 (S1 := (126, [(0, .ref m0), (1, .int (nI p))], [], M1)) (S2 := (107, [(0, .ref m0), (1, .int (nI p)), (2, .int (nI (by2 f pF))), (3, .int (nI f0)), (4, .int (nI k)), (5, .int (nI (by2 f p)))], [], M1)) rfl rfl rfl (fun c_104 => ?_) (fun c_104 => ?_)
                  · have c_104 : ¬ (nI (tg f E (by2 f (p + 2)))) = 1 := of_decide_eq_true c_104
                    have n_104 : ¬ (tg f E (by2 f (p + 2)) = 1) := fun h9 => c_104 ((eq_nI (p := tg f E (by2 f (p + 2))) (n := 1) (Nat.lt_trans (tg_lt _ _ _) (by decide)) (by decide)).mpr h9)
                    refine ps_st (S' := (127, [(0, .ref m0), (1, .int (nI p))], [.ref m0], M1)) rfl rfl rfl ?_
                    refine ps_st (S' := (129, [(0, .ref m0), (1, .int (nI p))], [.int 20, .ref m0], M1)) rfl rfl rfl ?_
                    refine ps_st (S' := (130, [(0, .ref m0), (1, .int (nI p))], [.int (nI p), .int 20, .ref m0], M1)) rfl rfl rfl ?_
                    refine ps_st (S' := (131, [(0, .ref m0), (1, .int (nI p))], [.int 2, .int (nI p), .int 20, .ref m0], M1)) rfl rfl rfl ?_
                    refine ps_st (S' := (132, [(0, .ref m0), (1, .int (nI p))], [.int ((nI p) + 2), .int 20, .ref m0], M1)) rfl rfl rfl ?_
                    rw [nI_add1 (p := p) (k := 2) (x := 2) rfl (by omega)]
                    show pl _ _ _ (_, [(0, .ref m0), (1, .int (nI p))], [.int (nI (p + 2)), .int 20, .ref m0], M1) _
                    refine pl_call (a := [.ref m0, .int 20, .int (nI (p + 2))]) (rest := []) rfl rfl rfl (rd_wrong (x1 := 20) (x2 := (nI (p + 2))) hR1) (fun v595 M596 q597 => ?_)
                    obtain ⟨I598, R599, rfl, hR600, hI601, hX602, hi603, hi604⟩ := q597
                    have hi605 := (hI601 51 (by decide)).trans hl51
                    have hi606 := (hI601 52 (by decide)).trans hl52
                    have hi607 := (hI601 53 (by decide)).trans hl53
                    have hi608 := (hI601 58 (by decide)).trans hl58
                    have hi609 := (hI601 55 (by decide)).trans hl55
                    have hi610 := (hI601 25 (by decide)).trans hl25
                    have hF_611 := hF1.mono (cIx hI601 (by decide)) (cRx hX602 (by decide))
                    have hY_612 := hY1.mono (cIx hI601 (by decide)) (cRx hX602 (by decide))
                    have hP_613 := hP1.mono (cIx hI601 (by decide)) (cRx hX602 (by decide))
                    have hK_614 := hK1.mono (cIx hI601 (by decide)) (cRx hX602 (by decide))
                    have hN9_615 := hN91.mono (cIx hI601 (by decide)) (cRx hX602 (by decide))
                    have hQ_616 := hQ1.mono (cIx hI601 (by decide)) (cRx hX602 (by decide))
                    have hEI617 := hEI1.tr hI601 (by decide)
                    have hER618 := hER1.tr hX602 (by decide)
                    show pl _ _ _ (135, [(0, .ref m0), (1, .int (nI p))], [.int 0], M596) _
                    exact ps_ret rfl rfl (Or.inr ⟨(20, p + 2), I598, R599, by
                        rw [← hs, flS_st (i := k) (by omega), ← hpk, fh_20 (by have e1 := ffl_0 cf (by2 f p); have e2 := sev_0 (by2 f p); have e3 := hall_80 (by2 f p); omega) (by rw [tx_no (by omega)]; decide)], rfl, hR600, hEI617, hER618, hi603, hi604⟩)
                  · have c_104 : ¬ (¬ (nI (tg f E (by2 f (p + 2)))) = 1) := of_decide_eq_false c_104
                    have n_104 : tg f E (by2 f (p + 2)) = 1 := (eq_nI (p := tg f E (by2 f (p + 2))) (n := 1) (Nat.lt_trans (tg_lt _ _ _) (by decide)) (by decide)).mp (Decidable.not_not.mp c_104)
                    refine ps_st (S' := (108, [(0, .ref m0), (1, .int (nI p)), (2, .int (nI (by2 f pF))), (3, .int (nI f0)), (4, .int (nI k)), (5, .int (nI (by2 f p)))], [.ref m0], M1)) rfl rfl rfl ?_
                    refine ps_st (S' := (109, [(0, .ref m0), (1, .int (nI p)), (2, .int (nI (by2 f pF))), (3, .int (nI f0)), (4, .int (nI k)), (5, .int (nI (by2 f p)))], [.ref m0, .ref m0], M1)) rfl rfl rfl ?_
                    refine ps_st (S' := (110, [(0, .ref m0), (1, .int (nI p)), (2, .int (nI (by2 f pF))), (3, .int (nI f0)), (4, .int (nI k)), (5, .int (nI (by2 f p)))], [.ref m0, .ref m0, .ref m0], M1)) rfl rfl rfl ?_
                    refine ps_st (S' := (111, [(0, .ref m0), (1, .int (nI p)), (2, .int (nI (by2 f pF))), (3, .int (nI f0)), (4, .int (nI k)), (5, .int (nI (by2 f p)))], [.int (nI p), .ref m0, .ref m0, .ref m0], M1)) rfl rfl rfl ?_
                    refine ps_st (S' := (112, [(0, .ref m0), (1, .int (nI p)), (2, .int (nI (by2 f pF))), (3, .int (nI f0)), (4, .int (nI k)), (5, .int (nI (by2 f p)))], [.int 2, .int (nI p), .ref m0, .ref m0, .ref m0], M1)) rfl rfl rfl ?_
                    refine ps_st (S' := (113, [(0, .ref m0), (1, .int (nI p)), (2, .int (nI (by2 f pF))), (3, .int (nI f0)), (4, .int (nI k)), (5, .int (nI (by2 f p)))], [.int ((nI p) + 2), .ref m0, .ref m0, .ref m0], M1)) rfl rfl rfl ?_
                    rw [nI_add1 (p := p) (k := 2) (x := 2) rfl (by omega)]
                    show pl _ _ _ (_, [(0, .ref m0), (1, .int (nI p)), (2, .int (nI (by2 f pF))), (3, .int (nI f0)), (4, .int (nI k)), (5, .int (nI (by2 f p)))], [.int (nI (p + 2)), .ref m0, .ref m0, .ref m0], M1) _
                    refine pl_call (a := [.ref m0, .int (nI (p + 2))]) (rest := [.ref m0, .ref m0]) rfl rfl rfl (rd_u2 (n := n) (f := f) (p := (p + 2)) hR1 hF1 (by omega)) (fun v619 M620 q621 => ?_)
                    obtain ⟨rfl, rfl⟩ := q621
                    show pl _ _ _ (116, [(0, .ref m0), (1, .int (nI p)), (2, .int (nI (by2 f pF))), (3, .int (nI f0)), (4, .int (nI k)), (5, .int (nI (by2 f p)))], [.int (nI (by2 f (p + 2))), .ref m0, .ref m0], M1) _
                    have hu_113 := by2_lt f (p + 2)
                    refine pl_call (a := [.ref m0, .int (nI (by2 f (p + 2)))]) (rest := [.ref m0]) rfl rfl rfl (rd_symOf (n := n) (f := f) (tx := tx) (cN := cN) (A := A) (N := N) (mj := mj) (E := E) (k := (by2 f (p + 2))) hR1 hl51 hl52 hl53 hF1 hY1 hP1 (hEP) (hN) (hmj) (by omega)) (fun v622 M623 q624 => ?_)
                    obtain ⟨s625, q116_s, rfl, rfl⟩ := q624
                    show pl _ _ _ (119, [(0, .ref m0), (1, .int (nI p)), (2, .int (nI (by2 f pF))), (3, .int (nI f0)), (4, .int (nI k)), (5, .int (nI (by2 f p)))], [.int (nI s625), .ref m0], M1) _
                    have hsl_116 := q116_s.1
                    have htl_116 := hY1.1.2.2.1
                    refine ps_st (S' := (120, [(0, .ref m0), (1, .int (nI p)), (2, .int (nI (by2 f pF))), (3, .int (nI f0)), (4, .int (nI k)), (5, .int (nI (by2 f p)))], [.int 1, .int (nI s625), .ref m0], M1)) rfl rfl rfl ?_
                    refine pl_call (a := [.ref m0, .int (nI s625), .int 1]) (rest := []) rfl rfl rfl (rd_unq1 (tx := tx) (cN := cN) (A := A) (s := s625) (l := (tX f n E (by2 f (p + 2)))) hR1 hY1 (q116_s)) (fun v626 M627 q628 => ?_)
                    obtain ⟨rfl, rfl⟩ := q628
                    show pl _ _ _ (123, [(0, .ref m0), (1, .int (nI p)), (2, .int (nI (by2 f pF))), (3, .int (nI f0)), (4, .int (nI k)), (5, .int (nI (by2 f p)))], [.int (nI (unqN (tX f n E (by2 f (p + 2)))))], M1) _
                    refine ps_if (S1 := (136, [(0, .ref m0), (1, .int (nI p)), (2, .int (nI (by2 f pF))), (3, .int (nI f0)), (4, .int (nI k)), (5, .int (nI (by2 f p)))], [], M1)) (S2 := (126, [(0, .ref m0), (1, .int (nI p))], [], M1)) rfl rfl rfl (fun c_123 => ?_) (fun c_123 => ?_)
                    · have c_123 : ¬ (nI (unqN (tX f n E (by2 f (p + 2))))) = 0 := of_decide_eq_true c_123
                      have n_123 : ¬ (unqN (tX f n E (by2 f (p + 2))) = 0) := fun h9 => c_123 ((eq_nI (p := unqN (tX f n E (by2 f (p + 2)))) (n := 0) (Nat.lt_trans (le1_unq _) (by decide)) (by decide)).mpr h9)
                      refine ps_st (S' := (137, [(0, .ref m0), (1, .int (nI p)), (2, .int (nI (by2 f pF))), (3, .int (nI f0)), (4, .int (nI k)), (5, .int (nI (by2 f p)))], [.ref m0], M1)) rfl rfl rfl ?_
                      refine ps_st (S' := (138, [(0, .ref m0), (1, .int (nI p)), (2, .int (nI (by2 f pF))), (3, .int (nI f0)), (4, .int (nI k)), (5, .int (nI (by2 f p)))], [.ref m0, .ref m0], M1)) rfl rfl rfl ?_
                      refine ps_st (S' := (139, [(0, .ref m0), (1, .int (nI p)), (2, .int (nI (by2 f pF))), (3, .int (nI f0)), (4, .int (nI k)), (5, .int (nI (by2 f p)))], [.int (nI p), .ref m0, .ref m0], M1)) rfl rfl rfl ?_
                      refine ps_st (S' := (140, [(0, .ref m0), (1, .int (nI p)), (2, .int (nI (by2 f pF))), (3, .int (nI f0)), (4, .int (nI k)), (5, .int (nI (by2 f p)))], [.int 4, .int (nI p), .ref m0, .ref m0], M1)) rfl rfl rfl ?_
                      refine ps_st (S' := (141, [(0, .ref m0), (1, .int (nI p)), (2, .int (nI (by2 f pF))), (3, .int (nI f0)), (4, .int (nI k)), (5, .int (nI (by2 f p)))], [.int ((nI p) + 4), .ref m0, .ref m0], M1)) rfl rfl rfl ?_
                      rw [nI_add1 (p := p) (k := 4) (x := 4) rfl (by omega)]
                      show pl _ _ _ (_, [(0, .ref m0), (1, .int (nI p)), (2, .int (nI (by2 f pF))), (3, .int (nI f0)), (4, .int (nI k)), (5, .int (nI (by2 f p)))], [.int (nI (p + 4)), .ref m0, .ref m0], M1) _
                      refine pl_call (a := [.ref m0, .int (nI (p + 4))]) (rest := [.ref m0]) rfl rfl rfl (rd_u2 (n := n) (f := f) (p := (p + 4)) hR1 hF1 (by omega)) (fun v629 M630 q631 => ?_)
                      obtain ⟨rfl, rfl⟩ := q631
                      show pl _ _ _ (144, [(0, .ref m0), (1, .int (nI p)), (2, .int (nI (by2 f pF))), (3, .int (nI f0)), (4, .int (nI k)), (5, .int (nI (by2 f p)))], [.int (nI (by2 f (p + 4))), .ref m0], M1) _
                      have hu_141 := by2_lt f (p + 4)
                      refine pl_call (a := [.ref m0, .int (nI (by2 f (p + 4)))]) (rest := []) rfl rfl rfl (rd_tag (n := n) (f := f) (tx := tx) (cN := cN) (A := A) (N := N) (mj := mj) (E := E) (k := (by2 f (p + 4))) hR1 hl51 hl52 hl53 hF1 hY1 hP1 (hEP) (hN) (hmj) (by2_lt _ _)) (fun v632 M633 q634 => ?_)
                      obtain ⟨rfl, rfl⟩ := q634
                      show pl _ _ _ (147, [(0, .ref m0), (1, .int (nI p)), (2, .int (nI (by2 f pF))), (3, .int (nI f0)), (4, .int (nI k)), (5, .int (nI (by2 f p)))], [.int (nI (tg f E (by2 f (p + 4))))], M1) _
                      have htg_144 := tg_lt f E (by2 f (p + 4))
                      refine ps_st (S' := (148, [(0, .ref m0), (1, .int (nI p)), (2, .int (nI (by2 f pF))), (3, .int (nI f0)), (4, .int (nI k)), (5, .int (nI (by2 f p)))], [.int 1, .int (nI (tg f E (by2 f (p + 4))))], M1)) rfl rfl rfl ?_
                      refine ps_if2 (S1 := (169, [(0, .ref m0), (1, .int (nI p))], [], M1)) (S2 := (151, [(0, .ref m0), (1, .int (nI p)), (2, .int (nI (by2 f pF))), (3, .int (nI f0)), (4, .int (nI k)), (5, .int (nI (by2 f p)))], [], M1)) rfl rfl rfl (fun c_148 => ?_) (fun c_148 => ?_)
                      · have c_148 : ¬ (nI (tg f E (by2 f (p + 4)))) = 1 := of_decide_eq_true c_148
                        have n_148 : ¬ (tg f E (by2 f (p + 4)) = 1) := fun h9 => c_148 ((eq_nI (p := tg f E (by2 f (p + 4))) (n := 1) (Nat.lt_trans (tg_lt _ _ _) (by decide)) (by decide)).mpr h9)
                        refine ps_st (S' := (170, [(0, .ref m0), (1, .int (nI p))], [.ref m0], M1)) rfl rfl rfl ?_
                        refine ps_st (S' := (172, [(0, .ref m0), (1, .int (nI p))], [.int 21, .ref m0], M1)) rfl rfl rfl ?_
                        refine ps_st (S' := (173, [(0, .ref m0), (1, .int (nI p))], [.int (nI p), .int 21, .ref m0], M1)) rfl rfl rfl ?_
                        refine ps_st (S' := (174, [(0, .ref m0), (1, .int (nI p))], [.int 4, .int (nI p), .int 21, .ref m0], M1)) rfl rfl rfl ?_
                        refine ps_st (S' := (175, [(0, .ref m0), (1, .int (nI p))], [.int ((nI p) + 4), .int 21, .ref m0], M1)) rfl rfl rfl ?_
                        rw [nI_add1 (p := p) (k := 4) (x := 4) rfl (by omega)]
                        show pl _ _ _ (_, [(0, .ref m0), (1, .int (nI p))], [.int (nI (p + 4)), .int 21, .ref m0], M1) _
                        refine pl_call (a := [.ref m0, .int 21, .int (nI (p + 4))]) (rest := []) rfl rfl rfl (rd_wrong (x1 := 21) (x2 := (nI (p + 4))) hR1) (fun v635 M636 q637 => ?_)
                        obtain ⟨I638, R639, rfl, hR640, hI641, hX642, hi643, hi644⟩ := q637
                        have hi645 := (hI641 51 (by decide)).trans hl51
                        have hi646 := (hI641 52 (by decide)).trans hl52
                        have hi647 := (hI641 53 (by decide)).trans hl53
                        have hi648 := (hI641 58 (by decide)).trans hl58
                        have hi649 := (hI641 55 (by decide)).trans hl55
                        have hi650 := (hI641 25 (by decide)).trans hl25
                        have hF_651 := hF1.mono (cIx hI641 (by decide)) (cRx hX642 (by decide))
                        have hY_652 := hY1.mono (cIx hI641 (by decide)) (cRx hX642 (by decide))
                        have hP_653 := hP1.mono (cIx hI641 (by decide)) (cRx hX642 (by decide))
                        have hK_654 := hK1.mono (cIx hI641 (by decide)) (cRx hX642 (by decide))
                        have hN9_655 := hN91.mono (cIx hI641 (by decide)) (cRx hX642 (by decide))
                        have hQ_656 := hQ1.mono (cIx hI641 (by decide)) (cRx hX642 (by decide))
                        have hEI657 := hEI1.tr hI641 (by decide)
                        have hER658 := hER1.tr hX642 (by decide)
                        show pl _ _ _ (178, [(0, .ref m0), (1, .int (nI p))], [.int 0], M636) _
                        exact ps_ret rfl rfl (Or.inr ⟨(21, p + 4), I638, R639, by
                            rw [← hs, flS_st (i := k) (by omega), ← hpk, fh_21 (by have e1 := ffl_0 cf (by2 f p); have e2 := sev_0 (by2 f p); have e3 := hall_80 (by2 f p); omega) (by omega) (by rw [tx_no (by omega)]; decide)], rfl, hR640, hEI657, hER658, hi643, hi644⟩)
                      · have c_148 : ¬ (¬ (nI (tg f E (by2 f (p + 4)))) = 1) := of_decide_eq_false c_148
                        have n_148 : tg f E (by2 f (p + 4)) = 1 := (eq_nI (p := tg f E (by2 f (p + 4))) (n := 1) (Nat.lt_trans (tg_lt _ _ _) (by decide)) (by decide)).mp (Decidable.not_not.mp c_148)
                        refine ps_st (S' := (152, [(0, .ref m0), (1, .int (nI p)), (2, .int (nI (by2 f pF))), (3, .int (nI f0)), (4, .int (nI k)), (5, .int (nI (by2 f p)))], [.ref m0], M1)) rfl rfl rfl ?_
                        refine ps_st (S' := (153, [(0, .ref m0), (1, .int (nI p)), (2, .int (nI (by2 f pF))), (3, .int (nI f0)), (4, .int (nI k)), (5, .int (nI (by2 f p)))], [.ref m0, .ref m0], M1)) rfl rfl rfl ?_
                        refine ps_st (S' := (154, [(0, .ref m0), (1, .int (nI p)), (2, .int (nI (by2 f pF))), (3, .int (nI f0)), (4, .int (nI k)), (5, .int (nI (by2 f p)))], [.ref m0, .ref m0, .ref m0], M1)) rfl rfl rfl ?_
                        refine ps_st (S' := (155, [(0, .ref m0), (1, .int (nI p)), (2, .int (nI (by2 f pF))), (3, .int (nI f0)), (4, .int (nI k)), (5, .int (nI (by2 f p)))], [.int (nI p), .ref m0, .ref m0, .ref m0], M1)) rfl rfl rfl ?_
                        refine ps_st (S' := (156, [(0, .ref m0), (1, .int (nI p)), (2, .int (nI (by2 f pF))), (3, .int (nI f0)), (4, .int (nI k)), (5, .int (nI (by2 f p)))], [.int 4, .int (nI p), .ref m0, .ref m0, .ref m0], M1)) rfl rfl rfl ?_
                        refine ps_st (S' := (157, [(0, .ref m0), (1, .int (nI p)), (2, .int (nI (by2 f pF))), (3, .int (nI f0)), (4, .int (nI k)), (5, .int (nI (by2 f p)))], [.int ((nI p) + 4), .ref m0, .ref m0, .ref m0], M1)) rfl rfl rfl ?_
                        rw [nI_add1 (p := p) (k := 4) (x := 4) rfl (by omega)]
                        show pl _ _ _ (_, [(0, .ref m0), (1, .int (nI p)), (2, .int (nI (by2 f pF))), (3, .int (nI f0)), (4, .int (nI k)), (5, .int (nI (by2 f p)))], [.int (nI (p + 4)), .ref m0, .ref m0, .ref m0], M1) _
                        refine pl_call (a := [.ref m0, .int (nI (p + 4))]) (rest := [.ref m0, .ref m0]) rfl rfl rfl (rd_u2 (n := n) (f := f) (p := (p + 4)) hR1 hF1 (by omega)) (fun v659 M660 q661 => ?_)
                        obtain ⟨rfl, rfl⟩ := q661
                        show pl _ _ _ (160, [(0, .ref m0), (1, .int (nI p)), (2, .int (nI (by2 f pF))), (3, .int (nI f0)), (4, .int (nI k)), (5, .int (nI (by2 f p)))], [.int (nI (by2 f (p + 4))), .ref m0, .ref m0], M1) _
                        have hu_157 := by2_lt f (p + 4)
                        refine pl_call (a := [.ref m0, .int (nI (by2 f (p + 4)))]) (rest := [.ref m0]) rfl rfl rfl (rd_symOf (n := n) (f := f) (tx := tx) (cN := cN) (A := A) (N := N) (mj := mj) (E := E) (k := (by2 f (p + 4))) hR1 hl51 hl52 hl53 hF1 hY1 hP1 (hEP) (hN) (hmj) (by omega)) (fun v662 M663 q664 => ?_)
                        obtain ⟨s665, q160_s, rfl, rfl⟩ := q664
                        show pl _ _ _ (163, [(0, .ref m0), (1, .int (nI p)), (2, .int (nI (by2 f pF))), (3, .int (nI f0)), (4, .int (nI k)), (5, .int (nI (by2 f p)))], [.int (nI s665), .ref m0], M1) _
                        have hsl_160 := q160_s.1
                        have htl_160 := hY1.1.2.2.1
                        refine pl_call (a := [.ref m0, .int (nI s665)]) (rest := []) rfl rfl rfl (rd_isField (tx := tx) (cN := cN) (A := A) (s := s665) (l := (tX f n E (by2 f (p + 4)))) hR1 hY1 (q160_s)) (fun v666 M667 q668 => ?_)
                        obtain ⟨rfl, rfl⟩ := q668
                        show pl _ _ _ (166, [(0, .ref m0), (1, .int (nI p)), (2, .int (nI (by2 f pF))), (3, .int (nI f0)), (4, .int (nI k)), (5, .int (nI (by2 f p)))], [.int (nI (fldN (tX f n E (by2 f (p + 4)))))], M1) _
                        refine ps_if (S1 := (179, [(0, .ref m0), (1, .int (nI p)), (2, .int (nI (by2 f pF))), (3, .int (nI f0)), (4, .int (nI k)), (5, .int (nI (by2 f p)))], [], M1)) (S2 := (169, [(0, .ref m0), (1, .int (nI p))], [], M1)) rfl rfl rfl (fun c_166 => ?_) (fun c_166 => ?_)
                        · have c_166 : ¬ (nI (fldN (tX f n E (by2 f (p + 4))))) = 0 := of_decide_eq_true c_166
                          have n_166 : ¬ (fldN (tX f n E (by2 f (p + 4))) = 0) := fun h9 => c_166 ((eq_nI (p := fldN (tX f n E (by2 f (p + 4)))) (n := 0) (Nat.lt_trans (le1_fld _) (by decide)) (by decide)).mpr h9)
                          refine ps_st (S' := (180, [(0, .ref m0), (1, .int (nI p)), (2, .int (nI (by2 f pF))), (3, .int (nI f0)), (4, .int (nI k)), (5, .int (nI (by2 f p)))], [.ref m0], M1)) rfl rfl rfl ?_
                          refine pr_int (j := 25) (S' := (183, [(0, .ref m0), (1, .int (nI p)), (2, .int (nI (by2 f pF))), (3, .int (nI f0)), (4, .int (nI k)), (5, .int (nI (by2 f p)))], [.int (nI (f0 + k))], M1)) rfl hR1 rfl hl25 rfl ?_
                          refine ps_st (S' := (185, [(6, .int (nI (f0 + k))), (0, .ref m0), (1, .int (nI p)), (2, .int (nI (by2 f pF))), (3, .int (nI f0)), (4, .int (nI k)), (5, .int (nI (by2 f p)))], [], M1)) rfl rfl rfl ?_
                          refine ps_st (S' := (186, [(6, .int (nI (f0 + k))), (0, .ref m0), (1, .int (nI p)), (2, .int (nI (by2 f pF))), (3, .int (nI f0)), (4, .int (nI k)), (5, .int (nI (by2 f p)))], [.ref m0], M1)) rfl rfl rfl ?_
                          refine pr_ref (j := 27) (S' := (189, [(6, .int (nI (f0 + k))), (0, .ref m0), (1, .int (nI p)), (2, .int (nI (by2 f pF))), (3, .int (nI f0)), (4, .int (nI k)), (5, .int (nI (by2 f p)))], [.ref (q 27)], M1)) rfl hR1 rfl rfl ?_
                          refine ps_st (S' := (191, [(6, .int (nI (f0 + k))), (0, .ref m0), (1, .int (nI p)), (2, .int (nI (by2 f pF))), (3, .int (nI f0)), (4, .int (nI k)), (5, .int (nI (by2 f p)))], [.int (nI (f0 + k)), .ref (q 27)], M1)) rfl rfl rfl ?_
                          refine ps_st (S' := (193, [(6, .int (nI (f0 + k))), (0, .ref m0), (1, .int (nI p)), (2, .int (nI (by2 f pF))), (3, .int (nI f0)), (4, .int (nI k)), (5, .int (nI (by2 f p)))], [.int (nI (by2 f p)), .int (nI (f0 + k)), .ref (q 27)], M1)) rfl rfl rfl ?_
                          refine pr_st (a := 27) (j := f0 + k) rfl hR1 rfl (by omega) (fun M669 R670 i1_193 hR671 hS672 => ?_)
                          have hF_673 := hF1.mono (fun _ _ => rfl) (rRx hS672 (by decide))
                          have hY_674 := hY1.mono (fun _ _ => rfl) (rRx hS672 (by decide))
                          have hP_675 := hP1.mono (fun _ _ => rfl) (rRx hS672 (by decide))
                          have hK_676 := hK1.mono (fun _ _ => rfl) (rRx hS672 (by decide))
                          have hN9_677 := hN91.mono (fun _ _ => rfl) (rRx hS672 (by decide))
                          have hER678 := hER1.st hS672 (by decide)
                          show pl _ _ _ (194, [(6, .int (nI (f0 + k))), (0, .ref m0), (1, .int (nI p)), (2, .int (nI (by2 f pF))), (3, .int (nI f0)), (4, .int (nI k)), (5, .int (nI (by2 f p)))], [], M669) _
                          have c27_679 : CE 27 (f0 + k) (nI (by2 f p)) I1 R670 := CE.st hS672
                          have hQ_680 := FQ.st (I' := I1) hQ1 hS672 rfl
                          refine ps_st (S' := (195, [(6, .int (nI (f0 + k))), (0, .ref m0), (1, .int (nI p)), (2, .int (nI (by2 f pF))), (3, .int (nI f0)), (4, .int (nI k)), (5, .int (nI (by2 f p)))], [.ref m0], M669)) rfl rfl rfl ?_
                          refine pr_ref (j := 28) (S' := (198, [(6, .int (nI (f0 + k))), (0, .ref m0), (1, .int (nI p)), (2, .int (nI (by2 f pF))), (3, .int (nI f0)), (4, .int (nI k)), (5, .int (nI (by2 f p)))], [.ref (q 28)], M669)) rfl hR671 rfl rfl ?_
                          refine ps_st (S' := (200, [(6, .int (nI (f0 + k))), (0, .ref m0), (1, .int (nI p)), (2, .int (nI (by2 f pF))), (3, .int (nI f0)), (4, .int (nI k)), (5, .int (nI (by2 f p)))], [.int (nI (f0 + k)), .ref (q 28)], M669)) rfl rfl rfl ?_
                          refine ps_st (S' := (201, [(6, .int (nI (f0 + k))), (0, .ref m0), (1, .int (nI p)), (2, .int (nI (by2 f pF))), (3, .int (nI f0)), (4, .int (nI k)), (5, .int (nI (by2 f p)))], [.ref m0, .int (nI (f0 + k)), .ref (q 28)], M669)) rfl rfl rfl ?_
                          refine ps_st (S' := (202, [(6, .int (nI (f0 + k))), (0, .ref m0), (1, .int (nI p)), (2, .int (nI (by2 f pF))), (3, .int (nI f0)), (4, .int (nI k)), (5, .int (nI (by2 f p)))], [.ref m0, .ref m0, .int (nI (f0 + k)), .ref (q 28)], M669)) rfl rfl rfl ?_
                          refine ps_st (S' := (203, [(6, .int (nI (f0 + k))), (0, .ref m0), (1, .int (nI p)), (2, .int (nI (by2 f pF))), (3, .int (nI f0)), (4, .int (nI k)), (5, .int (nI (by2 f p)))], [.int (nI p), .ref m0, .ref m0, .int (nI (f0 + k)), .ref (q 28)], M669)) rfl rfl rfl ?_
                          refine ps_st (S' := (204, [(6, .int (nI (f0 + k))), (0, .ref m0), (1, .int (nI p)), (2, .int (nI (by2 f pF))), (3, .int (nI f0)), (4, .int (nI k)), (5, .int (nI (by2 f p)))], [.int 2, .int (nI p), .ref m0, .ref m0, .int (nI (f0 + k)), .ref (q 28)], M669)) rfl rfl rfl ?_
                          refine ps_st (S' := (205, [(6, .int (nI (f0 + k))), (0, .ref m0), (1, .int (nI p)), (2, .int (nI (by2 f pF))), (3, .int (nI f0)), (4, .int (nI k)), (5, .int (nI (by2 f p)))], [.int ((nI p) + 2), .ref m0, .ref m0, .int (nI (f0 + k)), .ref (q 28)], M669)) rfl rfl rfl ?_
                          rw [nI_add1 (p := p) (k := 2) (x := 2) rfl (by omega)]
                          show pl _ _ _ (_, [(6, .int (nI (f0 + k))), (0, .ref m0), (1, .int (nI p)), (2, .int (nI (by2 f pF))), (3, .int (nI f0)), (4, .int (nI k)), (5, .int (nI (by2 f p)))], [.int (nI (p + 2)), .ref m0, .ref m0, .int (nI (f0 + k)), .ref (q 28)], M669) _
                          refine pl_call (a := [.ref m0, .int (nI (p + 2))]) (rest := [.ref m0, .int (nI (f0 + k)), .ref (q 28)]) rfl rfl rfl (rd_u2 (n := n) (f := f) (p := (p + 2)) hR671 hF_673 (by omega)) (fun v681 M682 q683 => ?_)
                          obtain ⟨rfl, rfl⟩ := q683
                          show pl _ _ _ (208, [(6, .int (nI (f0 + k))), (0, .ref m0), (1, .int (nI p)), (2, .int (nI (by2 f pF))), (3, .int (nI f0)), (4, .int (nI k)), (5, .int (nI (by2 f p)))], [.int (nI (by2 f (p + 2))), .ref m0, .int (nI (f0 + k)), .ref (q 28)], M669) _
                          have hu_205 := by2_lt f (p + 2)
                          refine pl_call (a := [.ref m0, .int (nI (by2 f (p + 2)))]) (rest := [.int (nI (f0 + k)), .ref (q 28)]) rfl rfl rfl (rd_symOf (n := n) (f := f) (tx := tx) (cN := cN) (A := A) (N := N) (mj := mj) (E := E) (k := (by2 f (p + 2))) hR671 hl51 hl52 hl53 hF_673 hY_674 hP_675 (hEP) (hN) (hmj) (by omega)) (fun v684 M685 q686 => ?_)
                          obtain ⟨s687, q208_s, rfl, rfl⟩ := q686
                          show pl _ _ _ (211, [(6, .int (nI (f0 + k))), (0, .ref m0), (1, .int (nI p)), (2, .int (nI (by2 f pF))), (3, .int (nI f0)), (4, .int (nI k)), (5, .int (nI (by2 f p)))], [.int (nI s687), .int (nI (f0 + k)), .ref (q 28)], M669) _
                          have hsl_208 := q208_s.1
                          have htl_208 := hY_674.1.2.2.1
                          refine pr_st (a := 28) (j := f0 + k) rfl hR671 rfl (by omega) (fun M688 R689 i1_211 hR690 hS691 => ?_)
                          have hF_692 := hF_673.mono (fun _ _ => rfl) (rRx hS691 (by decide))
                          have hY_693 := hY_674.mono (fun _ _ => rfl) (rRx hS691 (by decide))
                          have hP_694 := hP_675.mono (fun _ _ => rfl) (rRx hS691 (by decide))
                          have hK_695 := hK_676.mono (fun _ _ => rfl) (rRx hS691 (by decide))
                          have c27_696 := c27_679.mono (fun _ _ => rfl) (rRx hS691 (by decide))
                          have hQ_697 := hQ_680.mono (fun _ _ => rfl) (rRx hS691 (by decide))
                          have hER698 := hER678.st hS691 (by decide)
                          show pl _ _ _ (212, [(6, .int (nI (f0 + k))), (0, .ref m0), (1, .int (nI p)), (2, .int (nI (by2 f pF))), (3, .int (nI f0)), (4, .int (nI k)), (5, .int (nI (by2 f p)))], [], M688) _
                          have c28_699 : CE 28 (f0 + k) (nI s687) I1 R689 := CE.st hS691
                          have hN9_700 := FN.st (I' := I1) hN9_677 hS691 rfl
                          refine ps_st (S' := (213, [(6, .int (nI (f0 + k))), (0, .ref m0), (1, .int (nI p)), (2, .int (nI (by2 f pF))), (3, .int (nI f0)), (4, .int (nI k)), (5, .int (nI (by2 f p)))], [.ref m0], M688)) rfl rfl rfl ?_
                          refine pr_ref (j := 29) (S' := (216, [(6, .int (nI (f0 + k))), (0, .ref m0), (1, .int (nI p)), (2, .int (nI (by2 f pF))), (3, .int (nI f0)), (4, .int (nI k)), (5, .int (nI (by2 f p)))], [.ref (q 29)], M688)) rfl hR690 rfl rfl ?_
                          refine ps_st (S' := (218, [(6, .int (nI (f0 + k))), (0, .ref m0), (1, .int (nI p)), (2, .int (nI (by2 f pF))), (3, .int (nI f0)), (4, .int (nI k)), (5, .int (nI (by2 f p)))], [.int (nI (f0 + k)), .ref (q 29)], M688)) rfl rfl rfl ?_
                          refine ps_st (S' := (219, [(6, .int (nI (f0 + k))), (0, .ref m0), (1, .int (nI p)), (2, .int (nI (by2 f pF))), (3, .int (nI f0)), (4, .int (nI k)), (5, .int (nI (by2 f p)))], [.ref m0, .int (nI (f0 + k)), .ref (q 29)], M688)) rfl rfl rfl ?_
                          refine ps_st (S' := (220, [(6, .int (nI (f0 + k))), (0, .ref m0), (1, .int (nI p)), (2, .int (nI (by2 f pF))), (3, .int (nI f0)), (4, .int (nI k)), (5, .int (nI (by2 f p)))], [.ref m0, .ref m0, .int (nI (f0 + k)), .ref (q 29)], M688)) rfl rfl rfl ?_
                          refine ps_st (S' := (221, [(6, .int (nI (f0 + k))), (0, .ref m0), (1, .int (nI p)), (2, .int (nI (by2 f pF))), (3, .int (nI f0)), (4, .int (nI k)), (5, .int (nI (by2 f p)))], [.int (nI p), .ref m0, .ref m0, .int (nI (f0 + k)), .ref (q 29)], M688)) rfl rfl rfl ?_
                          refine ps_st (S' := (222, [(6, .int (nI (f0 + k))), (0, .ref m0), (1, .int (nI p)), (2, .int (nI (by2 f pF))), (3, .int (nI f0)), (4, .int (nI k)), (5, .int (nI (by2 f p)))], [.int 4, .int (nI p), .ref m0, .ref m0, .int (nI (f0 + k)), .ref (q 29)], M688)) rfl rfl rfl ?_
                          refine ps_st (S' := (223, [(6, .int (nI (f0 + k))), (0, .ref m0), (1, .int (nI p)), (2, .int (nI (by2 f pF))), (3, .int (nI f0)), (4, .int (nI k)), (5, .int (nI (by2 f p)))], [.int ((nI p) + 4), .ref m0, .ref m0, .int (nI (f0 + k)), .ref (q 29)], M688)) rfl rfl rfl ?_
                          rw [nI_add1 (p := p) (k := 4) (x := 4) rfl (by omega)]
                          show pl _ _ _ (_, [(6, .int (nI (f0 + k))), (0, .ref m0), (1, .int (nI p)), (2, .int (nI (by2 f pF))), (3, .int (nI f0)), (4, .int (nI k)), (5, .int (nI (by2 f p)))], [.int (nI (p + 4)), .ref m0, .ref m0, .int (nI (f0 + k)), .ref (q 29)], M688) _
                          refine pl_call (a := [.ref m0, .int (nI (p + 4))]) (rest := [.ref m0, .int (nI (f0 + k)), .ref (q 29)]) rfl rfl rfl (rd_u2 (n := n) (f := f) (p := (p + 4)) hR690 hF_692 (by omega)) (fun v701 M702 q703 => ?_)
                          obtain ⟨rfl, rfl⟩ := q703
                          show pl _ _ _ (226, [(6, .int (nI (f0 + k))), (0, .ref m0), (1, .int (nI p)), (2, .int (nI (by2 f pF))), (3, .int (nI f0)), (4, .int (nI k)), (5, .int (nI (by2 f p)))], [.int (nI (by2 f (p + 4))), .ref m0, .int (nI (f0 + k)), .ref (q 29)], M688) _
                          have hu_223 := by2_lt f (p + 4)
                          refine pl_call (a := [.ref m0, .int (nI (by2 f (p + 4)))]) (rest := [.int (nI (f0 + k)), .ref (q 29)]) rfl rfl rfl (rd_symOf (n := n) (f := f) (tx := tx) (cN := cN) (A := A) (N := N) (mj := mj) (E := E) (k := (by2 f (p + 4))) hR690 hl51 hl52 hl53 hF_692 hY_693 hP_694 (hEP) (hN) (hmj) (by omega)) (fun v704 M705 q706 => ?_)
                          obtain ⟨s707, q226_s, rfl, rfl⟩ := q706
                          show pl _ _ _ (229, [(6, .int (nI (f0 + k))), (0, .ref m0), (1, .int (nI p)), (2, .int (nI (by2 f pF))), (3, .int (nI f0)), (4, .int (nI k)), (5, .int (nI (by2 f p)))], [.int (nI s707), .int (nI (f0 + k)), .ref (q 29)], M688) _
                          have hsl_226 := q226_s.1
                          have htl_226 := hY_693.1.2.2.1
                          refine pr_st (a := 29) (j := f0 + k) rfl hR690 rfl (by omega) (fun M708 R709 i1_229 hR710 hS711 => ?_)
                          have hF_712 := hF_692.mono (fun _ _ => rfl) (rRx hS711 (by decide))
                          have hY_713 := hY_693.mono (fun _ _ => rfl) (rRx hS711 (by decide))
                          have hP_714 := hP_694.mono (fun _ _ => rfl) (rRx hS711 (by decide))
                          have hK_715 := hK_695.mono (fun _ _ => rfl) (rRx hS711 (by decide))
                          have c27_716 := c27_696.mono (fun _ _ => rfl) (rRx hS711 (by decide))
                          have hQ_717 := hQ_697.mono (fun _ _ => rfl) (rRx hS711 (by decide))
                          have c28_718 := c28_699.mono (fun _ _ => rfl) (rRx hS711 (by decide))
                          have hER719 := hER698.st hS711 (by decide)
                          show pl _ _ _ (230, [(6, .int (nI (f0 + k))), (0, .ref m0), (1, .int (nI p)), (2, .int (nI (by2 f pF))), (3, .int (nI f0)), (4, .int (nI k)), (5, .int (nI (by2 f p)))], [], M708) _
                          have c29_720 : CE 29 (f0 + k) (nI s707) I1 R709 := CE.st hS711
                          have hN9_721 := FN.st (I' := I1) hN9_700 hS711 rfl
                          refine ps_st (S' := (231, [(6, .int (nI (f0 + k))), (0, .ref m0), (1, .int (nI p)), (2, .int (nI (by2 f pF))), (3, .int (nI f0)), (4, .int (nI k)), (5, .int (nI (by2 f p)))], [.ref m0], M708)) rfl rfl rfl ?_
                          refine pr_ref (j := 30) (S' := (234, [(6, .int (nI (f0 + k))), (0, .ref m0), (1, .int (nI p)), (2, .int (nI (by2 f pF))), (3, .int (nI f0)), (4, .int (nI k)), (5, .int (nI (by2 f p)))], [.ref (q 30)], M708)) rfl hR710 rfl rfl ?_
                          refine ps_st (S' := (236, [(6, .int (nI (f0 + k))), (0, .ref m0), (1, .int (nI p)), (2, .int (nI (by2 f pF))), (3, .int (nI f0)), (4, .int (nI k)), (5, .int (nI (by2 f p)))], [.int (nI (f0 + k)), .ref (q 30)], M708)) rfl rfl rfl ?_
                          refine ps_st (S' := (237, [(6, .int (nI (f0 + k))), (0, .ref m0), (1, .int (nI p)), (2, .int (nI (by2 f pF))), (3, .int (nI f0)), (4, .int (nI k)), (5, .int (nI (by2 f p)))], [.int 0, .int (nI (f0 + k)), .ref (q 30)], M708)) rfl rfl rfl ?_
                          refine pr_st (a := 30) (j := f0 + k) rfl hR710 rfl (by omega) (fun M722 R723 i1_237 hR724 hS725 => ?_)
                          have hF_726 := hF_712.mono (fun _ _ => rfl) (rRx hS725 (by decide))
                          have hY_727 := hY_713.mono (fun _ _ => rfl) (rRx hS725 (by decide))
                          have hP_728 := hP_714.mono (fun _ _ => rfl) (rRx hS725 (by decide))
                          have hK_729 := hK_715.mono (fun _ _ => rfl) (rRx hS725 (by decide))
                          have c27_730 := c27_716.mono (fun _ _ => rfl) (rRx hS725 (by decide))
                          have c28_731 := c28_718.mono (fun _ _ => rfl) (rRx hS725 (by decide))
                          have c29_732 := c29_720.mono (fun _ _ => rfl) (rRx hS725 (by decide))
                          have hN9_733 := hN9_721.mono (fun _ _ => rfl) (rRx hS725 (by decide))
                          have hER734 := hER719.st hS725 (by decide)
                          show pl _ _ _ (238, [(6, .int (nI (f0 + k))), (0, .ref m0), (1, .int (nI p)), (2, .int (nI (by2 f pF))), (3, .int (nI f0)), (4, .int (nI k)), (5, .int (nI (by2 f p)))], [], M722) _
                          have c30_735 : CE 30 (f0 + k) 0 I1 R723 := CE.st hS725
                          have hQ_736 := FQ.st (I' := I1) hQ_717 hS725 rfl
                          refine ps_st (S' := (239, [(6, .int (nI (f0 + k))), (0, .ref m0), (1, .int (nI p)), (2, .int (nI (by2 f pF))), (3, .int (nI f0)), (4, .int (nI k)), (5, .int (nI (by2 f p)))], [.ref m0], M722)) rfl rfl rfl ?_
                          refine pr_ref (j := 31) (S' := (242, [(6, .int (nI (f0 + k))), (0, .ref m0), (1, .int (nI p)), (2, .int (nI (by2 f pF))), (3, .int (nI f0)), (4, .int (nI k)), (5, .int (nI (by2 f p)))], [.ref (q 31)], M722)) rfl hR724 rfl rfl ?_
                          refine ps_st (S' := (244, [(6, .int (nI (f0 + k))), (0, .ref m0), (1, .int (nI p)), (2, .int (nI (by2 f pF))), (3, .int (nI f0)), (4, .int (nI k)), (5, .int (nI (by2 f p)))], [.int (nI (f0 + k)), .ref (q 31)], M722)) rfl rfl rfl ?_
                          refine ps_st (S' := (245, [(6, .int (nI (f0 + k))), (0, .ref m0), (1, .int (nI p)), (2, .int (nI (by2 f pF))), (3, .int (nI f0)), (4, .int (nI k)), (5, .int (nI (by2 f p)))], [.int 0, .int (nI (f0 + k)), .ref (q 31)], M722)) rfl rfl rfl ?_
                          refine pr_st (a := 31) (j := f0 + k) rfl hR724 rfl (by omega) (fun M737 R738 i1_245 hR739 hS740 => ?_)
                          have hF_741 := hF_726.mono (fun _ _ => rfl) (rRx hS740 (by decide))
                          have hY_742 := hY_727.mono (fun _ _ => rfl) (rRx hS740 (by decide))
                          have hP_743 := hP_728.mono (fun _ _ => rfl) (rRx hS740 (by decide))
                          have hK_744 := hK_729.mono (fun _ _ => rfl) (rRx hS740 (by decide))
                          have c27_745 := c27_730.mono (fun _ _ => rfl) (rRx hS740 (by decide))
                          have c28_746 := c28_731.mono (fun _ _ => rfl) (rRx hS740 (by decide))
                          have c29_747 := c29_732.mono (fun _ _ => rfl) (rRx hS740 (by decide))
                          have hN9_748 := hN9_733.mono (fun _ _ => rfl) (rRx hS740 (by decide))
                          have c30_749 := c30_735.mono (fun _ _ => rfl) (rRx hS740 (by decide))
                          have hER750 := hER734.st hS740 (by decide)
                          show pl _ _ _ (246, [(6, .int (nI (f0 + k))), (0, .ref m0), (1, .int (nI p)), (2, .int (nI (by2 f pF))), (3, .int (nI f0)), (4, .int (nI k)), (5, .int (nI (by2 f p)))], [], M737) _
                          have c31_751 : CE 31 (f0 + k) 0 I1 R738 := CE.st hS740
                          have hQ_752 := FQ.st (I' := I1) hQ_736 hS740 rfl
                          refine ps_st (S' := (247, [(6, .int (nI (f0 + k))), (0, .ref m0), (1, .int (nI p)), (2, .int (nI (by2 f pF))), (3, .int (nI f0)), (4, .int (nI k)), (5, .int (nI (by2 f p)))], [.ref m0], M737)) rfl rfl rfl ?_
                          refine pr_ref (j := 32) (S' := (250, [(6, .int (nI (f0 + k))), (0, .ref m0), (1, .int (nI p)), (2, .int (nI (by2 f pF))), (3, .int (nI f0)), (4, .int (nI k)), (5, .int (nI (by2 f p)))], [.ref (q 32)], M737)) rfl hR739 rfl rfl ?_
                          refine ps_st (S' := (252, [(6, .int (nI (f0 + k))), (0, .ref m0), (1, .int (nI p)), (2, .int (nI (by2 f pF))), (3, .int (nI f0)), (4, .int (nI k)), (5, .int (nI (by2 f p)))], [.int (nI (f0 + k)), .ref (q 32)], M737)) rfl rfl rfl ?_
                          refine ps_st (S' := (253, [(6, .int (nI (f0 + k))), (0, .ref m0), (1, .int (nI p)), (2, .int (nI (by2 f pF))), (3, .int (nI f0)), (4, .int (nI k)), (5, .int (nI (by2 f p)))], [.ref m0, .int (nI (f0 + k)), .ref (q 32)], M737)) rfl rfl rfl ?_
                          refine ps_st (S' := (254, [(6, .int (nI (f0 + k))), (0, .ref m0), (1, .int (nI p)), (2, .int (nI (by2 f pF))), (3, .int (nI f0)), (4, .int (nI k)), (5, .int (nI (by2 f p)))], [.int (nI p), .ref m0, .int (nI (f0 + k)), .ref (q 32)], M737)) rfl rfl rfl ?_
                          refine ps_st (S' := (255, [(6, .int (nI (f0 + k))), (0, .ref m0), (1, .int (nI p)), (2, .int (nI (by2 f pF))), (3, .int (nI f0)), (4, .int (nI k)), (5, .int (nI (by2 f p)))], [.int 2, .int (nI p), .ref m0, .int (nI (f0 + k)), .ref (q 32)], M737)) rfl rfl rfl ?_
                          refine ps_st (S' := (256, [(6, .int (nI (f0 + k))), (0, .ref m0), (1, .int (nI p)), (2, .int (nI (by2 f pF))), (3, .int (nI f0)), (4, .int (nI k)), (5, .int (nI (by2 f p)))], [.int ((nI p) + 2), .ref m0, .int (nI (f0 + k)), .ref (q 32)], M737)) rfl rfl rfl ?_
                          rw [nI_add1 (p := p) (k := 2) (x := 2) rfl (by omega)]
                          show pl _ _ _ (_, [(6, .int (nI (f0 + k))), (0, .ref m0), (1, .int (nI p)), (2, .int (nI (by2 f pF))), (3, .int (nI f0)), (4, .int (nI k)), (5, .int (nI (by2 f p)))], [.int (nI (p + 2)), .ref m0, .int (nI (f0 + k)), .ref (q 32)], M737) _
                          refine pl_call (a := [.ref m0, .int (nI (p + 2))]) (rest := [.int (nI (f0 + k)), .ref (q 32)]) rfl rfl rfl (rd_u2 (n := n) (f := f) (p := (p + 2)) hR739 hF_741 (by omega)) (fun v753 M754 q755 => ?_)
                          obtain ⟨rfl, rfl⟩ := q755
                          show pl _ _ _ (259, [(6, .int (nI (f0 + k))), (0, .ref m0), (1, .int (nI p)), (2, .int (nI (by2 f pF))), (3, .int (nI f0)), (4, .int (nI k)), (5, .int (nI (by2 f p)))], [.int (nI (by2 f (p + 2))), .int (nI (f0 + k)), .ref (q 32)], M737) _
                          have hu_256 := by2_lt f (p + 2)
                          refine pr_st (a := 32) (j := f0 + k) rfl hR739 rfl (by omega) (fun M756 R757 i1_259 hR758 hS759 => ?_)
                          have hF_760 := hF_741.mono (fun _ _ => rfl) (rRx hS759 (by decide))
                          have hY_761 := hY_742.mono (fun _ _ => rfl) (rRx hS759 (by decide))
                          have hP_762 := hP_743.mono (fun _ _ => rfl) (rRx hS759 (by decide))
                          have hK_763 := hK_744.mono (fun _ _ => rfl) (rRx hS759 (by decide))
                          have c27_764 := c27_745.mono (fun _ _ => rfl) (rRx hS759 (by decide))
                          have c28_765 := c28_746.mono (fun _ _ => rfl) (rRx hS759 (by decide))
                          have c29_766 := c29_747.mono (fun _ _ => rfl) (rRx hS759 (by decide))
                          have hN9_767 := hN9_748.mono (fun _ _ => rfl) (rRx hS759 (by decide))
                          have c30_768 := c30_749.mono (fun _ _ => rfl) (rRx hS759 (by decide))
                          have c31_769 := c31_751.mono (fun _ _ => rfl) (rRx hS759 (by decide))
                          have hER770 := hER750.st hS759 (by decide)
                          show pl _ _ _ (260, [(6, .int (nI (f0 + k))), (0, .ref m0), (1, .int (nI p)), (2, .int (nI (by2 f pF))), (3, .int (nI f0)), (4, .int (nI k)), (5, .int (nI (by2 f p)))], [], M756) _
                          have c32_771 : CE 32 (f0 + k) (nI (by2 f (p + 2))) I1 R757 := CE.st hS759
                          have hQ_772 := FQ.st (I' := I1) hQ_752 hS759 rfl
                          refine ps_st (S' := (261, [(6, .int (nI (f0 + k))), (0, .ref m0), (1, .int (nI p)), (2, .int (nI (by2 f pF))), (3, .int (nI f0)), (4, .int (nI k)), (5, .int (nI (by2 f p)))], [.ref m0], M756)) rfl rfl rfl ?_
                          refine pr_ref (j := 33) (S' := (264, [(6, .int (nI (f0 + k))), (0, .ref m0), (1, .int (nI p)), (2, .int (nI (by2 f pF))), (3, .int (nI f0)), (4, .int (nI k)), (5, .int (nI (by2 f p)))], [.ref (q 33)], M756)) rfl hR758 rfl rfl ?_
                          refine ps_st (S' := (266, [(6, .int (nI (f0 + k))), (0, .ref m0), (1, .int (nI p)), (2, .int (nI (by2 f pF))), (3, .int (nI f0)), (4, .int (nI k)), (5, .int (nI (by2 f p)))], [.int (nI (f0 + k)), .ref (q 33)], M756)) rfl rfl rfl ?_
                          refine ps_st (S' := (267, [(6, .int (nI (f0 + k))), (0, .ref m0), (1, .int (nI p)), (2, .int (nI (by2 f pF))), (3, .int (nI f0)), (4, .int (nI k)), (5, .int (nI (by2 f p)))], [.ref m0, .int (nI (f0 + k)), .ref (q 33)], M756)) rfl rfl rfl ?_
                          refine ps_st (S' := (268, [(6, .int (nI (f0 + k))), (0, .ref m0), (1, .int (nI p)), (2, .int (nI (by2 f pF))), (3, .int (nI f0)), (4, .int (nI k)), (5, .int (nI (by2 f p)))], [.int (nI p), .ref m0, .int (nI (f0 + k)), .ref (q 33)], M756)) rfl rfl rfl ?_
                          refine ps_st (S' := (269, [(6, .int (nI (f0 + k))), (0, .ref m0), (1, .int (nI p)), (2, .int (nI (by2 f pF))), (3, .int (nI f0)), (4, .int (nI k)), (5, .int (nI (by2 f p)))], [.int 4, .int (nI p), .ref m0, .int (nI (f0 + k)), .ref (q 33)], M756)) rfl rfl rfl ?_
                          refine ps_st (S' := (270, [(6, .int (nI (f0 + k))), (0, .ref m0), (1, .int (nI p)), (2, .int (nI (by2 f pF))), (3, .int (nI f0)), (4, .int (nI k)), (5, .int (nI (by2 f p)))], [.int ((nI p) + 4), .ref m0, .int (nI (f0 + k)), .ref (q 33)], M756)) rfl rfl rfl ?_
                          rw [nI_add1 (p := p) (k := 4) (x := 4) rfl (by omega)]
                          show pl _ _ _ (_, [(6, .int (nI (f0 + k))), (0, .ref m0), (1, .int (nI p)), (2, .int (nI (by2 f pF))), (3, .int (nI f0)), (4, .int (nI k)), (5, .int (nI (by2 f p)))], [.int (nI (p + 4)), .ref m0, .int (nI (f0 + k)), .ref (q 33)], M756) _
                          refine pl_call (a := [.ref m0, .int (nI (p + 4))]) (rest := [.int (nI (f0 + k)), .ref (q 33)]) rfl rfl rfl (rd_u2 (n := n) (f := f) (p := (p + 4)) hR758 hF_760 (by omega)) (fun v773 M774 q775 => ?_)
                          obtain ⟨rfl, rfl⟩ := q775
                          show pl _ _ _ (273, [(6, .int (nI (f0 + k))), (0, .ref m0), (1, .int (nI p)), (2, .int (nI (by2 f pF))), (3, .int (nI f0)), (4, .int (nI k)), (5, .int (nI (by2 f p)))], [.int (nI (by2 f (p + 4))), .int (nI (f0 + k)), .ref (q 33)], M756) _
                          have hu_270 := by2_lt f (p + 4)
                          refine pr_st (a := 33) (j := f0 + k) rfl hR758 rfl (by omega) (fun M776 R777 i1_273 hR778 hS779 => ?_)
                          have hF_780 := hF_760.mono (fun _ _ => rfl) (rRx hS779 (by decide))
                          have hY_781 := hY_761.mono (fun _ _ => rfl) (rRx hS779 (by decide))
                          have hP_782 := hP_762.mono (fun _ _ => rfl) (rRx hS779 (by decide))
                          have hK_783 := hK_763.mono (fun _ _ => rfl) (rRx hS779 (by decide))
                          have c27_784 := c27_764.mono (fun _ _ => rfl) (rRx hS779 (by decide))
                          have c28_785 := c28_765.mono (fun _ _ => rfl) (rRx hS779 (by decide))
                          have c29_786 := c29_766.mono (fun _ _ => rfl) (rRx hS779 (by decide))
                          have hN9_787 := hN9_767.mono (fun _ _ => rfl) (rRx hS779 (by decide))
                          have c30_788 := c30_768.mono (fun _ _ => rfl) (rRx hS779 (by decide))
                          have c31_789 := c31_769.mono (fun _ _ => rfl) (rRx hS779 (by decide))
                          have c32_790 := c32_771.mono (fun _ _ => rfl) (rRx hS779 (by decide))
                          have hER791 := hER770.st hS779 (by decide)
                          show pl _ _ _ (274, [(6, .int (nI (f0 + k))), (0, .ref m0), (1, .int (nI p)), (2, .int (nI (by2 f pF))), (3, .int (nI f0)), (4, .int (nI k)), (5, .int (nI (by2 f p)))], [], M776) _
                          have c33_792 : CE 33 (f0 + k) (nI (by2 f (p + 4))) I1 R777 := CE.st hS779
                          have hQ_793 := FQ.st (I' := I1) hQ_772 hS779 rfl
                          refine ps_st (S' := (275, [(6, .int (nI (f0 + k))), (0, .ref m0), (1, .int (nI p)), (2, .int (nI (by2 f pF))), (3, .int (nI f0)), (4, .int (nI k)), (5, .int (nI (by2 f p)))], [.int (nI f0)], M776)) rfl rfl rfl ?_
                          refine ps_st (S' := (277, [(0, .ref m0), (1, .int (nI p)), (2, .int (nI (by2 f pF))), (3, .int (nI f0)), (4, .int (nI k)), (6, .int (nI (f0 + k))), (7, .int (nI f0))], [], M776)) rfl rfl rfl ?_
                          have h19 : ¬ fflN cf (by2 f p) = 0 := by
                            have e1 := ffl_0 cf (by2 f p)
                            have e2 := sev_0 (by2 f p)
                            have e3 := hall_80 (by2 f p)
                            omega
                          exact ih.2 (k) (p) (0) (s687) (s707) M776 I1 R777 hR778 hEI1 hER791 hl51 hl52 hl53 hl58 hl55 hl25 hF_780 hY_781 hP_782 hK_783 hN9_787 c27_784 c28_785 c29_786 hQ_793 c30_788 c31_789 c32_790 c33_792 (by omega) (hpk) (by omega) (hs) (by omega) (by omega) (q208_s) (q226_s) (by omega) (by omega) (h19) (by omega) (by omega) (rfl)
                        · have c_166 : ¬ (¬ (nI (fldN (tX f n E (by2 f (p + 4))))) = 0) := of_decide_eq_false c_166
                          have n_166 : fldN (tX f n E (by2 f (p + 4))) = 0 := (eq_nI (p := fldN (tX f n E (by2 f (p + 4)))) (n := 0) (Nat.lt_trans (le1_fld _) (by decide)) (by decide)).mp (Decidable.not_not.mp c_166)
                          refine ps_st (S' := (170, [(0, .ref m0), (1, .int (nI p))], [.ref m0], M1)) rfl rfl rfl ?_
                          refine ps_st (S' := (172, [(0, .ref m0), (1, .int (nI p))], [.int 21, .ref m0], M1)) rfl rfl rfl ?_
                          refine ps_st (S' := (173, [(0, .ref m0), (1, .int (nI p))], [.int (nI p), .int 21, .ref m0], M1)) rfl rfl rfl ?_
                          refine ps_st (S' := (174, [(0, .ref m0), (1, .int (nI p))], [.int 4, .int (nI p), .int 21, .ref m0], M1)) rfl rfl rfl ?_
                          refine ps_st (S' := (175, [(0, .ref m0), (1, .int (nI p))], [.int ((nI p) + 4), .int 21, .ref m0], M1)) rfl rfl rfl ?_
                          rw [nI_add1 (p := p) (k := 4) (x := 4) rfl (by omega)]
                          show pl _ _ _ (_, [(0, .ref m0), (1, .int (nI p))], [.int (nI (p + 4)), .int 21, .ref m0], M1) _
                          refine pl_call (a := [.ref m0, .int 21, .int (nI (p + 4))]) (rest := []) rfl rfl rfl (rd_wrong (x1 := 21) (x2 := (nI (p + 4))) hR1) (fun v794 M795 q796 => ?_)
                          obtain ⟨I797, R798, rfl, hR799, hI800, hX801, hi802, hi803⟩ := q796
                          have hi804 := (hI800 51 (by decide)).trans hl51
                          have hi805 := (hI800 52 (by decide)).trans hl52
                          have hi806 := (hI800 53 (by decide)).trans hl53
                          have hi807 := (hI800 58 (by decide)).trans hl58
                          have hi808 := (hI800 55 (by decide)).trans hl55
                          have hi809 := (hI800 25 (by decide)).trans hl25
                          have hF_810 := hF1.mono (cIx hI800 (by decide)) (cRx hX801 (by decide))
                          have hY_811 := hY1.mono (cIx hI800 (by decide)) (cRx hX801 (by decide))
                          have hP_812 := hP1.mono (cIx hI800 (by decide)) (cRx hX801 (by decide))
                          have hK_813 := hK1.mono (cIx hI800 (by decide)) (cRx hX801 (by decide))
                          have hN9_814 := hN91.mono (cIx hI800 (by decide)) (cRx hX801 (by decide))
                          have hQ_815 := hQ1.mono (cIx hI800 (by decide)) (cRx hX801 (by decide))
                          have hEI816 := hEI1.tr hI800 (by decide)
                          have hER817 := hER1.tr hX801 (by decide)
                          show pl _ _ _ (178, [(0, .ref m0), (1, .int (nI p))], [.int 0], M795) _
                          exact ps_ret rfl rfl (Or.inr ⟨(21, p + 4), I797, R798, by
                              rw [← hs, flS_st (i := k) (by omega), ← hpk, fh_21 (by have e1 := ffl_0 cf (by2 f p); have e2 := sev_0 (by2 f p); have e3 := hall_80 (by2 f p); omega) (by omega) (by omega)], rfl, hR799, hEI816, hER817, hi802, hi803⟩)
                    · have c_123 : ¬ (¬ (nI (unqN (tX f n E (by2 f (p + 2))))) = 0) := of_decide_eq_false c_123
                      have n_123 : unqN (tX f n E (by2 f (p + 2))) = 0 := (eq_nI (p := unqN (tX f n E (by2 f (p + 2)))) (n := 0) (Nat.lt_trans (le1_unq _) (by decide)) (by decide)).mp (Decidable.not_not.mp c_123)
                      refine ps_st (S' := (127, [(0, .ref m0), (1, .int (nI p))], [.ref m0], M1)) rfl rfl rfl ?_
                      refine ps_st (S' := (129, [(0, .ref m0), (1, .int (nI p))], [.int 20, .ref m0], M1)) rfl rfl rfl ?_
                      refine ps_st (S' := (130, [(0, .ref m0), (1, .int (nI p))], [.int (nI p), .int 20, .ref m0], M1)) rfl rfl rfl ?_
                      refine ps_st (S' := (131, [(0, .ref m0), (1, .int (nI p))], [.int 2, .int (nI p), .int 20, .ref m0], M1)) rfl rfl rfl ?_
                      refine ps_st (S' := (132, [(0, .ref m0), (1, .int (nI p))], [.int ((nI p) + 2), .int 20, .ref m0], M1)) rfl rfl rfl ?_
                      rw [nI_add1 (p := p) (k := 2) (x := 2) rfl (by omega)]
                      show pl _ _ _ (_, [(0, .ref m0), (1, .int (nI p))], [.int (nI (p + 2)), .int 20, .ref m0], M1) _
                      refine pl_call (a := [.ref m0, .int 20, .int (nI (p + 2))]) (rest := []) rfl rfl rfl (rd_wrong (x1 := 20) (x2 := (nI (p + 2))) hR1) (fun v818 M819 q820 => ?_)
                      obtain ⟨I821, R822, rfl, hR823, hI824, hX825, hi826, hi827⟩ := q820
                      have hi828 := (hI824 51 (by decide)).trans hl51
                      have hi829 := (hI824 52 (by decide)).trans hl52
                      have hi830 := (hI824 53 (by decide)).trans hl53
                      have hi831 := (hI824 58 (by decide)).trans hl58
                      have hi832 := (hI824 55 (by decide)).trans hl55
                      have hi833 := (hI824 25 (by decide)).trans hl25
                      have hF_834 := hF1.mono (cIx hI824 (by decide)) (cRx hX825 (by decide))
                      have hY_835 := hY1.mono (cIx hI824 (by decide)) (cRx hX825 (by decide))
                      have hP_836 := hP1.mono (cIx hI824 (by decide)) (cRx hX825 (by decide))
                      have hK_837 := hK1.mono (cIx hI824 (by decide)) (cRx hX825 (by decide))
                      have hN9_838 := hN91.mono (cIx hI824 (by decide)) (cRx hX825 (by decide))
                      have hQ_839 := hQ1.mono (cIx hI824 (by decide)) (cRx hX825 (by decide))
                      have hEI840 := hEI1.tr hI824 (by decide)
                      have hER841 := hER1.tr hX825 (by decide)
                      show pl _ _ _ (135, [(0, .ref m0), (1, .int (nI p))], [.int 0], M819) _
                      exact ps_ret rfl rfl (Or.inr ⟨(20, p + 2), I821, R822, by
                          rw [← hs, flS_st (i := k) (by omega), ← hpk, fh_20 (by have e1 := ffl_0 cf (by2 f p); have e2 := sev_0 (by2 f p); have e3 := hall_80 (by2 f p); omega) (by omega)], rfl, hR823, hEI840, hER841, hi826, hi827⟩)
                · have c_70 : ¬ ((nI (aN cf 512)) = 0) := of_decide_eq_false c_70
                  have n_70 : ¬ (aN cf 512 = 0) := fun h9 => c_70 ((eq_nI (p := aN cf 512) (n := 0) (Nat.lt_of_le_of_lt (an_le _ _) (by decide)) (by decide)).mpr h9)
                  refine ps_st (S' := (75, [(0, .ref m0), (1, .int (nI p)), (2, .int (nI (by2 f pF))), (3, .int (nI f0)), (4, .int (nI k)), (5, .int (nI (by2 f p)))], [.int (nI (by2 f p))], M1)) rfl rfl rfl ?_
                  refine ps_st (S' := (78, [(0, .ref m0), (1, .int (nI p)), (2, .int (nI (by2 f pF))), (3, .int (nI f0)), (4, .int (nI k)), (5, .int (nI (by2 f p)))], [.int 16607, .int (nI (by2 f p))], M1)) rfl rfl rfl ?_
                  refine ps_st (S' := (79, [(0, .ref m0), (1, .int (nI p)), (2, .int (nI (by2 f pF))), (3, .int (nI f0)), (4, .int (nI k)), (5, .int (nI (by2 f p)))], [.int ((nI (by2 f p)) &&& 16607)], M1)) rfl rfl rfl ?_
                  rw [nI_an (p := by2 f p) (k := 16607) (x := 16607) rfl]
                  show pl _ _ _ (_, [(0, .ref m0), (1, .int (nI p)), (2, .int (nI (by2 f pF))), (3, .int (nI f0)), (4, .int (nI k)), (5, .int (nI (by2 f p)))], [.int (nI (aN (by2 f p) 16607))], M1) _
                  refine ps_st (S' := (81, [(0, .ref m0), (1, .int (nI p)), (2, .int (nI (by2 f pF))), (3, .int (nI f0)), (4, .int (nI k)), (5, .int (nI (by2 f p)))], [.int 25, .int (nI (aN (by2 f p) 16607))], M1)) rfl rfl rfl ?_
                  refine ps_if2 (S1 := (92, [(0, .ref m0), (1, .int (nI p)), (2, .int (nI (by2 f pF))), (3, .int (nI f0)), (4, .int (nI k)), (5, .int (nI (by2 f p)))], [], M1)) (S2 := (84, [(0, .ref m0), (1, .int (nI p))], [], M1)) rfl rfl rfl (fun c_81 => ?_) (fun c_81 => ?_)
                  · have c_81 : (nI (aN (by2 f p) 16607)) = 25 := of_decide_eq_true c_81
                    have n_81 : aN (by2 f p) 16607 = 25 := (eq_nI (p := aN (by2 f p) 16607) (n := 25) (Nat.lt_of_le_of_lt (an_le _ _) (by decide)) (by decide)).mp c_81
                    refine ps_st (S' := (93, [(0, .ref m0), (1, .int (nI p)), (2, .int (nI (by2 f pF))), (3, .int (nI f0)), (4, .int (nI k)), (5, .int (nI (by2 f p)))], [.ref m0], M1)) rfl rfl rfl ?_
                    refine ps_st (S' := (94, [(0, .ref m0), (1, .int (nI p)), (2, .int (nI (by2 f pF))), (3, .int (nI f0)), (4, .int (nI k)), (5, .int (nI (by2 f p)))], [.ref m0, .ref m0], M1)) rfl rfl rfl ?_
                    refine ps_st (S' := (95, [(0, .ref m0), (1, .int (nI p)), (2, .int (nI (by2 f pF))), (3, .int (nI f0)), (4, .int (nI k)), (5, .int (nI (by2 f p)))], [.int (nI p), .ref m0, .ref m0], M1)) rfl rfl rfl ?_
                    refine ps_st (S' := (96, [(0, .ref m0), (1, .int (nI p)), (2, .int (nI (by2 f pF))), (3, .int (nI f0)), (4, .int (nI k)), (5, .int (nI (by2 f p)))], [.int 2, .int (nI p), .ref m0, .ref m0], M1)) rfl rfl rfl ?_
                    refine ps_st (S' := (97, [(0, .ref m0), (1, .int (nI p)), (2, .int (nI (by2 f pF))), (3, .int (nI f0)), (4, .int (nI k)), (5, .int (nI (by2 f p)))], [.int ((nI p) + 2), .ref m0, .ref m0], M1)) rfl rfl rfl ?_
                    rw [nI_add1 (p := p) (k := 2) (x := 2) rfl (by omega)]
                    show pl _ _ _ (_, [(0, .ref m0), (1, .int (nI p)), (2, .int (nI (by2 f pF))), (3, .int (nI f0)), (4, .int (nI k)), (5, .int (nI (by2 f p)))], [.int (nI (p + 2)), .ref m0, .ref m0], M1) _
                    refine pl_call (a := [.ref m0, .int (nI (p + 2))]) (rest := [.ref m0]) rfl rfl rfl (rd_u2 (n := n) (f := f) (p := (p + 2)) hR1 hF1 (by omega)) (fun v842 M843 q844 => ?_)
                    obtain ⟨rfl, rfl⟩ := q844
                    show pl _ _ _ (100, [(0, .ref m0), (1, .int (nI p)), (2, .int (nI (by2 f pF))), (3, .int (nI f0)), (4, .int (nI k)), (5, .int (nI (by2 f p)))], [.int (nI (by2 f (p + 2))), .ref m0], M1) _
                    have hu_97 := by2_lt f (p + 2)
                    refine pl_call (a := [.ref m0, .int (nI (by2 f (p + 2)))]) (rest := []) rfl rfl rfl (rd_tag (n := n) (f := f) (tx := tx) (cN := cN) (A := A) (N := N) (mj := mj) (E := E) (k := (by2 f (p + 2))) hR1 hl51 hl52 hl53 hF1 hY1 hP1 (hEP) (hN) (hmj) (by2_lt _ _)) (fun v845 M846 q847 => ?_)
                    obtain ⟨rfl, rfl⟩ := q847
                    show pl _ _ _ (103, [(0, .ref m0), (1, .int (nI p)), (2, .int (nI (by2 f pF))), (3, .int (nI f0)), (4, .int (nI k)), (5, .int (nI (by2 f p)))], [.int (nI (tg f E (by2 f (p + 2))))], M1) _
                    have htg_100 := tg_lt f E (by2 f (p + 2))
                    refine ps_st (S' := (104, [(0, .ref m0), (1, .int (nI p)), (2, .int (nI (by2 f pF))), (3, .int (nI f0)), (4, .int (nI k)), (5, .int (nI (by2 f p)))], [.int 1, .int (nI (tg f E (by2 f (p + 2))))], M1)) rfl rfl rfl ?_
                    refine ps_if2 (S1 := (126, [(0, .ref m0), (1, .int (nI p))], [], M1)) (S2 := (107, [(0, .ref m0), (1, .int (nI p)), (2, .int (nI (by2 f pF))), (3, .int (nI f0)), (4, .int (nI k)), (5, .int (nI (by2 f p)))], [], M1)) rfl rfl rfl (fun c_104 => ?_) (fun c_104 => ?_)
                    · have c_104 : ¬ (nI (tg f E (by2 f (p + 2)))) = 1 := of_decide_eq_true c_104
                      have n_104 : ¬ (tg f E (by2 f (p + 2)) = 1) := fun h9 => c_104 ((eq_nI (p := tg f E (by2 f (p + 2))) (n := 1) (Nat.lt_trans (tg_lt _ _ _) (by decide)) (by decide)).mpr h9)
                      refine ps_st (S' := (127, [(0, .ref m0), (1, .int (nI p))], [.ref m0], M1)) rfl rfl rfl ?_
                      refine ps_st (S' := (129, [(0, .ref m0), (1, .int (nI p))], [.int 20, .ref m0], M1)) rfl rfl rfl ?_
                      refine ps_st (S' := (130, [(0, .ref m0), (1, .int (nI p))], [.int (nI p), .int 20, .ref m0], M1)) rfl rfl rfl ?_
                      refine ps_st (S' := (131, [(0, .ref m0), (1, .int (nI p))], [.int 2, .int (nI p), .int 20, .ref m0], M1)) rfl rfl rfl ?_
                      refine ps_st (S' := (132, [(0, .ref m0), (1, .int (nI p))], [.int ((nI p) + 2), .int 20, .ref m0], M1)) rfl rfl rfl ?_
                      rw [nI_add1 (p := p) (k := 2) (x := 2) rfl (by omega)]
                      show pl _ _ _ (_, [(0, .ref m0), (1, .int (nI p))], [.int (nI (p + 2)), .int 20, .ref m0], M1) _
                      refine pl_call (a := [.ref m0, .int 20, .int (nI (p + 2))]) (rest := []) rfl rfl rfl (rd_wrong (x1 := 20) (x2 := (nI (p + 2))) hR1) (fun v848 M849 q850 => ?_)
                      obtain ⟨I851, R852, rfl, hR853, hI854, hX855, hi856, hi857⟩ := q850
                      have hi858 := (hI854 51 (by decide)).trans hl51
                      have hi859 := (hI854 52 (by decide)).trans hl52
                      have hi860 := (hI854 53 (by decide)).trans hl53
                      have hi861 := (hI854 58 (by decide)).trans hl58
                      have hi862 := (hI854 55 (by decide)).trans hl55
                      have hi863 := (hI854 25 (by decide)).trans hl25
                      have hF_864 := hF1.mono (cIx hI854 (by decide)) (cRx hX855 (by decide))
                      have hY_865 := hY1.mono (cIx hI854 (by decide)) (cRx hX855 (by decide))
                      have hP_866 := hP1.mono (cIx hI854 (by decide)) (cRx hX855 (by decide))
                      have hK_867 := hK1.mono (cIx hI854 (by decide)) (cRx hX855 (by decide))
                      have hN9_868 := hN91.mono (cIx hI854 (by decide)) (cRx hX855 (by decide))
                      have hQ_869 := hQ1.mono (cIx hI854 (by decide)) (cRx hX855 (by decide))
                      have hEI870 := hEI1.tr hI854 (by decide)
                      have hER871 := hER1.tr hX855 (by decide)
                      show pl _ _ _ (135, [(0, .ref m0), (1, .int (nI p))], [.int 0], M849) _
                      exact ps_ret rfl rfl (Or.inr ⟨(20, p + 2), I851, R852, by
                          rw [← hs, flS_st (i := k) (by omega), ← hpk, fh_20 (by have e1 := ffl_0 cf (by2 f p); have e2 := sev_0 (by2 f p); have e3 := hall_80 (by2 f p); omega) (by rw [tx_no (by omega)]; decide)], rfl, hR853, hEI870, hER871, hi856, hi857⟩)
                    · have c_104 : ¬ (¬ (nI (tg f E (by2 f (p + 2)))) = 1) := of_decide_eq_false c_104
                      have n_104 : tg f E (by2 f (p + 2)) = 1 := (eq_nI (p := tg f E (by2 f (p + 2))) (n := 1) (Nat.lt_trans (tg_lt _ _ _) (by decide)) (by decide)).mp (Decidable.not_not.mp c_104)
                      refine ps_st (S' := (108, [(0, .ref m0), (1, .int (nI p)), (2, .int (nI (by2 f pF))), (3, .int (nI f0)), (4, .int (nI k)), (5, .int (nI (by2 f p)))], [.ref m0], M1)) rfl rfl rfl ?_
                      refine ps_st (S' := (109, [(0, .ref m0), (1, .int (nI p)), (2, .int (nI (by2 f pF))), (3, .int (nI f0)), (4, .int (nI k)), (5, .int (nI (by2 f p)))], [.ref m0, .ref m0], M1)) rfl rfl rfl ?_
                      refine ps_st (S' := (110, [(0, .ref m0), (1, .int (nI p)), (2, .int (nI (by2 f pF))), (3, .int (nI f0)), (4, .int (nI k)), (5, .int (nI (by2 f p)))], [.ref m0, .ref m0, .ref m0], M1)) rfl rfl rfl ?_
                      refine ps_st (S' := (111, [(0, .ref m0), (1, .int (nI p)), (2, .int (nI (by2 f pF))), (3, .int (nI f0)), (4, .int (nI k)), (5, .int (nI (by2 f p)))], [.int (nI p), .ref m0, .ref m0, .ref m0], M1)) rfl rfl rfl ?_
                      refine ps_st (S' := (112, [(0, .ref m0), (1, .int (nI p)), (2, .int (nI (by2 f pF))), (3, .int (nI f0)), (4, .int (nI k)), (5, .int (nI (by2 f p)))], [.int 2, .int (nI p), .ref m0, .ref m0, .ref m0], M1)) rfl rfl rfl ?_
                      refine ps_st (S' := (113, [(0, .ref m0), (1, .int (nI p)), (2, .int (nI (by2 f pF))), (3, .int (nI f0)), (4, .int (nI k)), (5, .int (nI (by2 f p)))], [.int ((nI p) + 2), .ref m0, .ref m0, .ref m0], M1)) rfl rfl rfl ?_
                      rw [nI_add1 (p := p) (k := 2) (x := 2) rfl (by omega)]
                      show pl _ _ _ (_, [(0, .ref m0), (1, .int (nI p)), (2, .int (nI (by2 f pF))), (3, .int (nI f0)), (4, .int (nI k)), (5, .int (nI (by2 f p)))], [.int (nI (p + 2)), .ref m0, .ref m0, .ref m0], M1) _
                      refine pl_call (a := [.ref m0, .int (nI (p + 2))]) (rest := [.ref m0, .ref m0]) rfl rfl rfl (rd_u2 (n := n) (f := f) (p := (p + 2)) hR1 hF1 (by omega)) (fun v872 M873 q874 => ?_)
                      obtain ⟨rfl, rfl⟩ := q874
                      show pl _ _ _ (116, [(0, .ref m0), (1, .int (nI p)), (2, .int (nI (by2 f pF))), (3, .int (nI f0)), (4, .int (nI k)), (5, .int (nI (by2 f p)))], [.int (nI (by2 f (p + 2))), .ref m0, .ref m0], M1) _
                      have hu_113 := by2_lt f (p + 2)
                      refine pl_call (a := [.ref m0, .int (nI (by2 f (p + 2)))]) (rest := [.ref m0]) rfl rfl rfl (rd_symOf (n := n) (f := f) (tx := tx) (cN := cN) (A := A) (N := N) (mj := mj) (E := E) (k := (by2 f (p + 2))) hR1 hl51 hl52 hl53 hF1 hY1 hP1 (hEP) (hN) (hmj) (by omega)) (fun v875 M876 q877 => ?_)
                      obtain ⟨s878, q116_s, rfl, rfl⟩ := q877
                      show pl _ _ _ (119, [(0, .ref m0), (1, .int (nI p)), (2, .int (nI (by2 f pF))), (3, .int (nI f0)), (4, .int (nI k)), (5, .int (nI (by2 f p)))], [.int (nI s878), .ref m0], M1) _
                      have hsl_116 := q116_s.1
                      have htl_116 := hY1.1.2.2.1
                      refine ps_st (S' := (120, [(0, .ref m0), (1, .int (nI p)), (2, .int (nI (by2 f pF))), (3, .int (nI f0)), (4, .int (nI k)), (5, .int (nI (by2 f p)))], [.int 1, .int (nI s878), .ref m0], M1)) rfl rfl rfl ?_
                      refine pl_call (a := [.ref m0, .int (nI s878), .int 1]) (rest := []) rfl rfl rfl (rd_unq1 (tx := tx) (cN := cN) (A := A) (s := s878) (l := (tX f n E (by2 f (p + 2)))) hR1 hY1 (q116_s)) (fun v879 M880 q881 => ?_)
                      obtain ⟨rfl, rfl⟩ := q881
                      show pl _ _ _ (123, [(0, .ref m0), (1, .int (nI p)), (2, .int (nI (by2 f pF))), (3, .int (nI f0)), (4, .int (nI k)), (5, .int (nI (by2 f p)))], [.int (nI (unqN (tX f n E (by2 f (p + 2)))))], M1) _
                      refine ps_if (S1 := (136, [(0, .ref m0), (1, .int (nI p)), (2, .int (nI (by2 f pF))), (3, .int (nI f0)), (4, .int (nI k)), (5, .int (nI (by2 f p)))], [], M1)) (S2 := (126, [(0, .ref m0), (1, .int (nI p))], [], M1)) rfl rfl rfl (fun c_123 => ?_) (fun c_123 => ?_)
                      · have c_123 : ¬ (nI (unqN (tX f n E (by2 f (p + 2))))) = 0 := of_decide_eq_true c_123
                        have n_123 : ¬ (unqN (tX f n E (by2 f (p + 2))) = 0) := fun h9 => c_123 ((eq_nI (p := unqN (tX f n E (by2 f (p + 2)))) (n := 0) (Nat.lt_trans (le1_unq _) (by decide)) (by decide)).mpr h9)
                        refine ps_st (S' := (137, [(0, .ref m0), (1, .int (nI p)), (2, .int (nI (by2 f pF))), (3, .int (nI f0)), (4, .int (nI k)), (5, .int (nI (by2 f p)))], [.ref m0], M1)) rfl rfl rfl ?_
                        refine ps_st (S' := (138, [(0, .ref m0), (1, .int (nI p)), (2, .int (nI (by2 f pF))), (3, .int (nI f0)), (4, .int (nI k)), (5, .int (nI (by2 f p)))], [.ref m0, .ref m0], M1)) rfl rfl rfl ?_
                        refine ps_st (S' := (139, [(0, .ref m0), (1, .int (nI p)), (2, .int (nI (by2 f pF))), (3, .int (nI f0)), (4, .int (nI k)), (5, .int (nI (by2 f p)))], [.int (nI p), .ref m0, .ref m0], M1)) rfl rfl rfl ?_
                        refine ps_st (S' := (140, [(0, .ref m0), (1, .int (nI p)), (2, .int (nI (by2 f pF))), (3, .int (nI f0)), (4, .int (nI k)), (5, .int (nI (by2 f p)))], [.int 4, .int (nI p), .ref m0, .ref m0], M1)) rfl rfl rfl ?_
                        refine ps_st (S' := (141, [(0, .ref m0), (1, .int (nI p)), (2, .int (nI (by2 f pF))), (3, .int (nI f0)), (4, .int (nI k)), (5, .int (nI (by2 f p)))], [.int ((nI p) + 4), .ref m0, .ref m0], M1)) rfl rfl rfl ?_
                        rw [nI_add1 (p := p) (k := 4) (x := 4) rfl (by omega)]
                        show pl _ _ _ (_, [(0, .ref m0), (1, .int (nI p)), (2, .int (nI (by2 f pF))), (3, .int (nI f0)), (4, .int (nI k)), (5, .int (nI (by2 f p)))], [.int (nI (p + 4)), .ref m0, .ref m0], M1) _
                        refine pl_call (a := [.ref m0, .int (nI (p + 4))]) (rest := [.ref m0]) rfl rfl rfl (rd_u2 (n := n) (f := f) (p := (p + 4)) hR1 hF1 (by omega)) (fun v882 M883 q884 => ?_)
                        obtain ⟨rfl, rfl⟩ := q884
                        show pl _ _ _ (144, [(0, .ref m0), (1, .int (nI p)), (2, .int (nI (by2 f pF))), (3, .int (nI f0)), (4, .int (nI k)), (5, .int (nI (by2 f p)))], [.int (nI (by2 f (p + 4))), .ref m0], M1) _
                        have hu_141 := by2_lt f (p + 4)
                        refine pl_call (a := [.ref m0, .int (nI (by2 f (p + 4)))]) (rest := []) rfl rfl rfl (rd_tag (n := n) (f := f) (tx := tx) (cN := cN) (A := A) (N := N) (mj := mj) (E := E) (k := (by2 f (p + 4))) hR1 hl51 hl52 hl53 hF1 hY1 hP1 (hEP) (hN) (hmj) (by2_lt _ _)) (fun v885 M886 q887 => ?_)
                        obtain ⟨rfl, rfl⟩ := q887
                        show pl _ _ _ (147, [(0, .ref m0), (1, .int (nI p)), (2, .int (nI (by2 f pF))), (3, .int (nI f0)), (4, .int (nI k)), (5, .int (nI (by2 f p)))], [.int (nI (tg f E (by2 f (p + 4))))], M1) _
                        have htg_144 := tg_lt f E (by2 f (p + 4))
                        refine ps_st (S' := (148, [(0, .ref m0), (1, .int (nI p)), (2, .int (nI (by2 f pF))), (3, .int (nI f0)), (4, .int (nI k)), (5, .int (nI (by2 f p)))], [.int 1, .int (nI (tg f E (by2 f (p + 4))))], M1)) rfl rfl rfl ?_
                        refine ps_if2 (S1 := (169, [(0, .ref m0), (1, .int (nI p))], [], M1)) (S2 := (151, [(0, .ref m0), (1, .int (nI p)), (2, .int (nI (by2 f pF))), (3, .int (nI f0)), (4, .int (nI k)), (5, .int (nI (by2 f p)))], [], M1)) rfl rfl rfl (fun c_148 => ?_) (fun c_148 => ?_)
                        · have c_148 : ¬ (nI (tg f E (by2 f (p + 4)))) = 1 := of_decide_eq_true c_148
                          have n_148 : ¬ (tg f E (by2 f (p + 4)) = 1) := fun h9 => c_148 ((eq_nI (p := tg f E (by2 f (p + 4))) (n := 1) (Nat.lt_trans (tg_lt _ _ _) (by decide)) (by decide)).mpr h9)
                          refine ps_st (S' := (170, [(0, .ref m0), (1, .int (nI p))], [.ref m0], M1)) rfl rfl rfl ?_
                          refine ps_st (S' := (172, [(0, .ref m0), (1, .int (nI p))], [.int 21, .ref m0], M1)) rfl rfl rfl ?_
                          refine ps_st (S' := (173, [(0, .ref m0), (1, .int (nI p))], [.int (nI p), .int 21, .ref m0], M1)) rfl rfl rfl ?_
                          refine ps_st (S' := (174, [(0, .ref m0), (1, .int (nI p))], [.int 4, .int (nI p), .int 21, .ref m0], M1)) rfl rfl rfl ?_
                          refine ps_st (S' := (175, [(0, .ref m0), (1, .int (nI p))], [.int ((nI p) + 4), .int 21, .ref m0], M1)) rfl rfl rfl ?_
                          rw [nI_add1 (p := p) (k := 4) (x := 4) rfl (by omega)]
                          show pl _ _ _ (_, [(0, .ref m0), (1, .int (nI p))], [.int (nI (p + 4)), .int 21, .ref m0], M1) _
                          refine pl_call (a := [.ref m0, .int 21, .int (nI (p + 4))]) (rest := []) rfl rfl rfl (rd_wrong (x1 := 21) (x2 := (nI (p + 4))) hR1) (fun v888 M889 q890 => ?_)
                          obtain ⟨I891, R892, rfl, hR893, hI894, hX895, hi896, hi897⟩ := q890
                          have hi898 := (hI894 51 (by decide)).trans hl51
                          have hi899 := (hI894 52 (by decide)).trans hl52
                          have hi900 := (hI894 53 (by decide)).trans hl53
                          have hi901 := (hI894 58 (by decide)).trans hl58
                          have hi902 := (hI894 55 (by decide)).trans hl55
                          have hi903 := (hI894 25 (by decide)).trans hl25
                          have hF_904 := hF1.mono (cIx hI894 (by decide)) (cRx hX895 (by decide))
                          have hY_905 := hY1.mono (cIx hI894 (by decide)) (cRx hX895 (by decide))
                          have hP_906 := hP1.mono (cIx hI894 (by decide)) (cRx hX895 (by decide))
                          have hK_907 := hK1.mono (cIx hI894 (by decide)) (cRx hX895 (by decide))
                          have hN9_908 := hN91.mono (cIx hI894 (by decide)) (cRx hX895 (by decide))
                          have hQ_909 := hQ1.mono (cIx hI894 (by decide)) (cRx hX895 (by decide))
                          have hEI910 := hEI1.tr hI894 (by decide)
                          have hER911 := hER1.tr hX895 (by decide)
                          show pl _ _ _ (178, [(0, .ref m0), (1, .int (nI p))], [.int 0], M889) _
                          exact ps_ret rfl rfl (Or.inr ⟨(21, p + 4), I891, R892, by
                              rw [← hs, flS_st (i := k) (by omega), ← hpk, fh_21 (by have e1 := ffl_0 cf (by2 f p); have e2 := sev_0 (by2 f p); have e3 := hall_80 (by2 f p); omega) (by omega) (by rw [tx_no (by omega)]; decide)], rfl, hR893, hEI910, hER911, hi896, hi897⟩)
                        · have c_148 : ¬ (¬ (nI (tg f E (by2 f (p + 4)))) = 1) := of_decide_eq_false c_148
                          have n_148 : tg f E (by2 f (p + 4)) = 1 := (eq_nI (p := tg f E (by2 f (p + 4))) (n := 1) (Nat.lt_trans (tg_lt _ _ _) (by decide)) (by decide)).mp (Decidable.not_not.mp c_148)
                          refine ps_st (S' := (152, [(0, .ref m0), (1, .int (nI p)), (2, .int (nI (by2 f pF))), (3, .int (nI f0)), (4, .int (nI k)), (5, .int (nI (by2 f p)))], [.ref m0], M1)) rfl rfl rfl ?_
                          refine ps_st (S' := (153, [(0, .ref m0), (1, .int (nI p)), (2, .int (nI (by2 f pF))), (3, .int (nI f0)), (4, .int (nI k)), (5, .int (nI (by2 f p)))], [.ref m0, .ref m0], M1)) rfl rfl rfl ?_
                          refine ps_st (S' := (154, [(0, .ref m0), (1, .int (nI p)), (2, .int (nI (by2 f pF))), (3, .int (nI f0)), (4, .int (nI k)), (5, .int (nI (by2 f p)))], [.ref m0, .ref m0, .ref m0], M1)) rfl rfl rfl ?_
                          refine ps_st (S' := (155, [(0, .ref m0), (1, .int (nI p)), (2, .int (nI (by2 f pF))), (3, .int (nI f0)), (4, .int (nI k)), (5, .int (nI (by2 f p)))], [.int (nI p), .ref m0, .ref m0, .ref m0], M1)) rfl rfl rfl ?_
                          refine ps_st (S' := (156, [(0, .ref m0), (1, .int (nI p)), (2, .int (nI (by2 f pF))), (3, .int (nI f0)), (4, .int (nI k)), (5, .int (nI (by2 f p)))], [.int 4, .int (nI p), .ref m0, .ref m0, .ref m0], M1)) rfl rfl rfl ?_
                          refine ps_st (S' := (157, [(0, .ref m0), (1, .int (nI p)), (2, .int (nI (by2 f pF))), (3, .int (nI f0)), (4, .int (nI k)), (5, .int (nI (by2 f p)))], [.int ((nI p) + 4), .ref m0, .ref m0, .ref m0], M1)) rfl rfl rfl ?_
                          rw [nI_add1 (p := p) (k := 4) (x := 4) rfl (by omega)]
                          show pl _ _ _ (_, [(0, .ref m0), (1, .int (nI p)), (2, .int (nI (by2 f pF))), (3, .int (nI f0)), (4, .int (nI k)), (5, .int (nI (by2 f p)))], [.int (nI (p + 4)), .ref m0, .ref m0, .ref m0], M1) _
                          refine pl_call (a := [.ref m0, .int (nI (p + 4))]) (rest := [.ref m0, .ref m0]) rfl rfl rfl (rd_u2 (n := n) (f := f) (p := (p + 4)) hR1 hF1 (by omega)) (fun v912 M913 q914 => ?_)
                          obtain ⟨rfl, rfl⟩ := q914
                          show pl _ _ _ (160, [(0, .ref m0), (1, .int (nI p)), (2, .int (nI (by2 f pF))), (3, .int (nI f0)), (4, .int (nI k)), (5, .int (nI (by2 f p)))], [.int (nI (by2 f (p + 4))), .ref m0, .ref m0], M1) _
                          have hu_157 := by2_lt f (p + 4)
                          refine pl_call (a := [.ref m0, .int (nI (by2 f (p + 4)))]) (rest := [.ref m0]) rfl rfl rfl (rd_symOf (n := n) (f := f) (tx := tx) (cN := cN) (A := A) (N := N) (mj := mj) (E := E) (k := (by2 f (p + 4))) hR1 hl51 hl52 hl53 hF1 hY1 hP1 (hEP) (hN) (hmj) (by omega)) (fun v915 M916 q917 => ?_)
                          obtain ⟨s918, q160_s, rfl, rfl⟩ := q917
                          show pl _ _ _ (163, [(0, .ref m0), (1, .int (nI p)), (2, .int (nI (by2 f pF))), (3, .int (nI f0)), (4, .int (nI k)), (5, .int (nI (by2 f p)))], [.int (nI s918), .ref m0], M1) _
                          have hsl_160 := q160_s.1
                          have htl_160 := hY1.1.2.2.1
                          refine pl_call (a := [.ref m0, .int (nI s918)]) (rest := []) rfl rfl rfl (rd_isField (tx := tx) (cN := cN) (A := A) (s := s918) (l := (tX f n E (by2 f (p + 4)))) hR1 hY1 (q160_s)) (fun v919 M920 q921 => ?_)
                          obtain ⟨rfl, rfl⟩ := q921
                          show pl _ _ _ (166, [(0, .ref m0), (1, .int (nI p)), (2, .int (nI (by2 f pF))), (3, .int (nI f0)), (4, .int (nI k)), (5, .int (nI (by2 f p)))], [.int (nI (fldN (tX f n E (by2 f (p + 4)))))], M1) _
                          refine ps_if (S1 := (179, [(0, .ref m0), (1, .int (nI p)), (2, .int (nI (by2 f pF))), (3, .int (nI f0)), (4, .int (nI k)), (5, .int (nI (by2 f p)))], [], M1)) (S2 := (169, [(0, .ref m0), (1, .int (nI p))], [], M1)) rfl rfl rfl (fun c_166 => ?_) (fun c_166 => ?_)
                          · have c_166 : ¬ (nI (fldN (tX f n E (by2 f (p + 4))))) = 0 := of_decide_eq_true c_166
                            have n_166 : ¬ (fldN (tX f n E (by2 f (p + 4))) = 0) := fun h9 => c_166 ((eq_nI (p := fldN (tX f n E (by2 f (p + 4)))) (n := 0) (Nat.lt_trans (le1_fld _) (by decide)) (by decide)).mpr h9)
                            refine ps_st (S' := (180, [(0, .ref m0), (1, .int (nI p)), (2, .int (nI (by2 f pF))), (3, .int (nI f0)), (4, .int (nI k)), (5, .int (nI (by2 f p)))], [.ref m0], M1)) rfl rfl rfl ?_
                            refine pr_int (j := 25) (S' := (183, [(0, .ref m0), (1, .int (nI p)), (2, .int (nI (by2 f pF))), (3, .int (nI f0)), (4, .int (nI k)), (5, .int (nI (by2 f p)))], [.int (nI (f0 + k))], M1)) rfl hR1 rfl hl25 rfl ?_
                            refine ps_st (S' := (185, [(6, .int (nI (f0 + k))), (0, .ref m0), (1, .int (nI p)), (2, .int (nI (by2 f pF))), (3, .int (nI f0)), (4, .int (nI k)), (5, .int (nI (by2 f p)))], [], M1)) rfl rfl rfl ?_
                            refine ps_st (S' := (186, [(6, .int (nI (f0 + k))), (0, .ref m0), (1, .int (nI p)), (2, .int (nI (by2 f pF))), (3, .int (nI f0)), (4, .int (nI k)), (5, .int (nI (by2 f p)))], [.ref m0], M1)) rfl rfl rfl ?_
                            refine pr_ref (j := 27) (S' := (189, [(6, .int (nI (f0 + k))), (0, .ref m0), (1, .int (nI p)), (2, .int (nI (by2 f pF))), (3, .int (nI f0)), (4, .int (nI k)), (5, .int (nI (by2 f p)))], [.ref (q 27)], M1)) rfl hR1 rfl rfl ?_
                            refine ps_st (S' := (191, [(6, .int (nI (f0 + k))), (0, .ref m0), (1, .int (nI p)), (2, .int (nI (by2 f pF))), (3, .int (nI f0)), (4, .int (nI k)), (5, .int (nI (by2 f p)))], [.int (nI (f0 + k)), .ref (q 27)], M1)) rfl rfl rfl ?_
                            refine ps_st (S' := (193, [(6, .int (nI (f0 + k))), (0, .ref m0), (1, .int (nI p)), (2, .int (nI (by2 f pF))), (3, .int (nI f0)), (4, .int (nI k)), (5, .int (nI (by2 f p)))], [.int (nI (by2 f p)), .int (nI (f0 + k)), .ref (q 27)], M1)) rfl rfl rfl ?_
                            refine pr_st (a := 27) (j := f0 + k) rfl hR1 rfl (by omega) (fun M922 R923 i1_193 hR924 hS925 => ?_)
                            have hF_926 := hF1.mono (fun _ _ => rfl) (rRx hS925 (by decide))
                            have hY_927 := hY1.mono (fun _ _ => rfl) (rRx hS925 (by decide))
                            have hP_928 := hP1.mono (fun _ _ => rfl) (rRx hS925 (by decide))
                            have hK_929 := hK1.mono (fun _ _ => rfl) (rRx hS925 (by decide))
                            have hN9_930 := hN91.mono (fun _ _ => rfl) (rRx hS925 (by decide))
                            have hER931 := hER1.st hS925 (by decide)
                            show pl _ _ _ (194, [(6, .int (nI (f0 + k))), (0, .ref m0), (1, .int (nI p)), (2, .int (nI (by2 f pF))), (3, .int (nI f0)), (4, .int (nI k)), (5, .int (nI (by2 f p)))], [], M922) _
                            have c27_932 : CE 27 (f0 + k) (nI (by2 f p)) I1 R923 := CE.st hS925
                            have hQ_933 := FQ.st (I' := I1) hQ1 hS925 rfl
                            refine ps_st (S' := (195, [(6, .int (nI (f0 + k))), (0, .ref m0), (1, .int (nI p)), (2, .int (nI (by2 f pF))), (3, .int (nI f0)), (4, .int (nI k)), (5, .int (nI (by2 f p)))], [.ref m0], M922)) rfl rfl rfl ?_
                            refine pr_ref (j := 28) (S' := (198, [(6, .int (nI (f0 + k))), (0, .ref m0), (1, .int (nI p)), (2, .int (nI (by2 f pF))), (3, .int (nI f0)), (4, .int (nI k)), (5, .int (nI (by2 f p)))], [.ref (q 28)], M922)) rfl hR924 rfl rfl ?_
                            refine ps_st (S' := (200, [(6, .int (nI (f0 + k))), (0, .ref m0), (1, .int (nI p)), (2, .int (nI (by2 f pF))), (3, .int (nI f0)), (4, .int (nI k)), (5, .int (nI (by2 f p)))], [.int (nI (f0 + k)), .ref (q 28)], M922)) rfl rfl rfl ?_
                            refine ps_st (S' := (201, [(6, .int (nI (f0 + k))), (0, .ref m0), (1, .int (nI p)), (2, .int (nI (by2 f pF))), (3, .int (nI f0)), (4, .int (nI k)), (5, .int (nI (by2 f p)))], [.ref m0, .int (nI (f0 + k)), .ref (q 28)], M922)) rfl rfl rfl ?_
                            refine ps_st (S' := (202, [(6, .int (nI (f0 + k))), (0, .ref m0), (1, .int (nI p)), (2, .int (nI (by2 f pF))), (3, .int (nI f0)), (4, .int (nI k)), (5, .int (nI (by2 f p)))], [.ref m0, .ref m0, .int (nI (f0 + k)), .ref (q 28)], M922)) rfl rfl rfl ?_
                            refine ps_st (S' := (203, [(6, .int (nI (f0 + k))), (0, .ref m0), (1, .int (nI p)), (2, .int (nI (by2 f pF))), (3, .int (nI f0)), (4, .int (nI k)), (5, .int (nI (by2 f p)))], [.int (nI p), .ref m0, .ref m0, .int (nI (f0 + k)), .ref (q 28)], M922)) rfl rfl rfl ?_
                            refine ps_st (S' := (204, [(6, .int (nI (f0 + k))), (0, .ref m0), (1, .int (nI p)), (2, .int (nI (by2 f pF))), (3, .int (nI f0)), (4, .int (nI k)), (5, .int (nI (by2 f p)))], [.int 2, .int (nI p), .ref m0, .ref m0, .int (nI (f0 + k)), .ref (q 28)], M922)) rfl rfl rfl ?_
                            refine ps_st (S' := (205, [(6, .int (nI (f0 + k))), (0, .ref m0), (1, .int (nI p)), (2, .int (nI (by2 f pF))), (3, .int (nI f0)), (4, .int (nI k)), (5, .int (nI (by2 f p)))], [.int ((nI p) + 2), .ref m0, .ref m0, .int (nI (f0 + k)), .ref (q 28)], M922)) rfl rfl rfl ?_
                            rw [nI_add1 (p := p) (k := 2) (x := 2) rfl (by omega)]
                            show pl _ _ _ (_, [(6, .int (nI (f0 + k))), (0, .ref m0), (1, .int (nI p)), (2, .int (nI (by2 f pF))), (3, .int (nI f0)), (4, .int (nI k)), (5, .int (nI (by2 f p)))], [.int (nI (p + 2)), .ref m0, .ref m0, .int (nI (f0 + k)), .ref (q 28)], M922) _
                            refine pl_call (a := [.ref m0, .int (nI (p + 2))]) (rest := [.ref m0, .int (nI (f0 + k)), .ref (q 28)]) rfl rfl rfl (rd_u2 (n := n) (f := f) (p := (p + 2)) hR924 hF_926 (by omega)) (fun v934 M935 q936 => ?_)
                            obtain ⟨rfl, rfl⟩ := q936
                            show pl _ _ _ (208, [(6, .int (nI (f0 + k))), (0, .ref m0), (1, .int (nI p)), (2, .int (nI (by2 f pF))), (3, .int (nI f0)), (4, .int (nI k)), (5, .int (nI (by2 f p)))], [.int (nI (by2 f (p + 2))), .ref m0, .int (nI (f0 + k)), .ref (q 28)], M922) _
                            have hu_205 := by2_lt f (p + 2)
                            refine pl_call (a := [.ref m0, .int (nI (by2 f (p + 2)))]) (rest := [.int (nI (f0 + k)), .ref (q 28)]) rfl rfl rfl (rd_symOf (n := n) (f := f) (tx := tx) (cN := cN) (A := A) (N := N) (mj := mj) (E := E) (k := (by2 f (p + 2))) hR924 hl51 hl52 hl53 hF_926 hY_927 hP_928 (hEP) (hN) (hmj) (by omega)) (fun v937 M938 q939 => ?_)
                            obtain ⟨s940, q208_s, rfl, rfl⟩ := q939
                            show pl _ _ _ (211, [(6, .int (nI (f0 + k))), (0, .ref m0), (1, .int (nI p)), (2, .int (nI (by2 f pF))), (3, .int (nI f0)), (4, .int (nI k)), (5, .int (nI (by2 f p)))], [.int (nI s940), .int (nI (f0 + k)), .ref (q 28)], M922) _
                            have hsl_208 := q208_s.1
                            have htl_208 := hY_927.1.2.2.1
                            refine pr_st (a := 28) (j := f0 + k) rfl hR924 rfl (by omega) (fun M941 R942 i1_211 hR943 hS944 => ?_)
                            have hF_945 := hF_926.mono (fun _ _ => rfl) (rRx hS944 (by decide))
                            have hY_946 := hY_927.mono (fun _ _ => rfl) (rRx hS944 (by decide))
                            have hP_947 := hP_928.mono (fun _ _ => rfl) (rRx hS944 (by decide))
                            have hK_948 := hK_929.mono (fun _ _ => rfl) (rRx hS944 (by decide))
                            have c27_949 := c27_932.mono (fun _ _ => rfl) (rRx hS944 (by decide))
                            have hQ_950 := hQ_933.mono (fun _ _ => rfl) (rRx hS944 (by decide))
                            have hER951 := hER931.st hS944 (by decide)
                            show pl _ _ _ (212, [(6, .int (nI (f0 + k))), (0, .ref m0), (1, .int (nI p)), (2, .int (nI (by2 f pF))), (3, .int (nI f0)), (4, .int (nI k)), (5, .int (nI (by2 f p)))], [], M941) _
                            have c28_952 : CE 28 (f0 + k) (nI s940) I1 R942 := CE.st hS944
                            have hN9_953 := FN.st (I' := I1) hN9_930 hS944 rfl
                            refine ps_st (S' := (213, [(6, .int (nI (f0 + k))), (0, .ref m0), (1, .int (nI p)), (2, .int (nI (by2 f pF))), (3, .int (nI f0)), (4, .int (nI k)), (5, .int (nI (by2 f p)))], [.ref m0], M941)) rfl rfl rfl ?_
                            refine pr_ref (j := 29) (S' := (216, [(6, .int (nI (f0 + k))), (0, .ref m0), (1, .int (nI p)), (2, .int (nI (by2 f pF))), (3, .int (nI f0)), (4, .int (nI k)), (5, .int (nI (by2 f p)))], [.ref (q 29)], M941)) rfl hR943 rfl rfl ?_
                            refine ps_st (S' := (218, [(6, .int (nI (f0 + k))), (0, .ref m0), (1, .int (nI p)), (2, .int (nI (by2 f pF))), (3, .int (nI f0)), (4, .int (nI k)), (5, .int (nI (by2 f p)))], [.int (nI (f0 + k)), .ref (q 29)], M941)) rfl rfl rfl ?_
                            refine ps_st (S' := (219, [(6, .int (nI (f0 + k))), (0, .ref m0), (1, .int (nI p)), (2, .int (nI (by2 f pF))), (3, .int (nI f0)), (4, .int (nI k)), (5, .int (nI (by2 f p)))], [.ref m0, .int (nI (f0 + k)), .ref (q 29)], M941)) rfl rfl rfl ?_
                            refine ps_st (S' := (220, [(6, .int (nI (f0 + k))), (0, .ref m0), (1, .int (nI p)), (2, .int (nI (by2 f pF))), (3, .int (nI f0)), (4, .int (nI k)), (5, .int (nI (by2 f p)))], [.ref m0, .ref m0, .int (nI (f0 + k)), .ref (q 29)], M941)) rfl rfl rfl ?_
                            refine ps_st (S' := (221, [(6, .int (nI (f0 + k))), (0, .ref m0), (1, .int (nI p)), (2, .int (nI (by2 f pF))), (3, .int (nI f0)), (4, .int (nI k)), (5, .int (nI (by2 f p)))], [.int (nI p), .ref m0, .ref m0, .int (nI (f0 + k)), .ref (q 29)], M941)) rfl rfl rfl ?_
                            refine ps_st (S' := (222, [(6, .int (nI (f0 + k))), (0, .ref m0), (1, .int (nI p)), (2, .int (nI (by2 f pF))), (3, .int (nI f0)), (4, .int (nI k)), (5, .int (nI (by2 f p)))], [.int 4, .int (nI p), .ref m0, .ref m0, .int (nI (f0 + k)), .ref (q 29)], M941)) rfl rfl rfl ?_
                            refine ps_st (S' := (223, [(6, .int (nI (f0 + k))), (0, .ref m0), (1, .int (nI p)), (2, .int (nI (by2 f pF))), (3, .int (nI f0)), (4, .int (nI k)), (5, .int (nI (by2 f p)))], [.int ((nI p) + 4), .ref m0, .ref m0, .int (nI (f0 + k)), .ref (q 29)], M941)) rfl rfl rfl ?_
                            rw [nI_add1 (p := p) (k := 4) (x := 4) rfl (by omega)]
                            show pl _ _ _ (_, [(6, .int (nI (f0 + k))), (0, .ref m0), (1, .int (nI p)), (2, .int (nI (by2 f pF))), (3, .int (nI f0)), (4, .int (nI k)), (5, .int (nI (by2 f p)))], [.int (nI (p + 4)), .ref m0, .ref m0, .int (nI (f0 + k)), .ref (q 29)], M941) _
                            refine pl_call (a := [.ref m0, .int (nI (p + 4))]) (rest := [.ref m0, .int (nI (f0 + k)), .ref (q 29)]) rfl rfl rfl (rd_u2 (n := n) (f := f) (p := (p + 4)) hR943 hF_945 (by omega)) (fun v954 M955 q956 => ?_)
                            obtain ⟨rfl, rfl⟩ := q956
                            show pl _ _ _ (226, [(6, .int (nI (f0 + k))), (0, .ref m0), (1, .int (nI p)), (2, .int (nI (by2 f pF))), (3, .int (nI f0)), (4, .int (nI k)), (5, .int (nI (by2 f p)))], [.int (nI (by2 f (p + 4))), .ref m0, .int (nI (f0 + k)), .ref (q 29)], M941) _
                            have hu_223 := by2_lt f (p + 4)
                            refine pl_call (a := [.ref m0, .int (nI (by2 f (p + 4)))]) (rest := [.int (nI (f0 + k)), .ref (q 29)]) rfl rfl rfl (rd_symOf (n := n) (f := f) (tx := tx) (cN := cN) (A := A) (N := N) (mj := mj) (E := E) (k := (by2 f (p + 4))) hR943 hl51 hl52 hl53 hF_945 hY_946 hP_947 (hEP) (hN) (hmj) (by omega)) (fun v957 M958 q959 => ?_)
                            obtain ⟨s960, q226_s, rfl, rfl⟩ := q959
                            show pl _ _ _ (229, [(6, .int (nI (f0 + k))), (0, .ref m0), (1, .int (nI p)), (2, .int (nI (by2 f pF))), (3, .int (nI f0)), (4, .int (nI k)), (5, .int (nI (by2 f p)))], [.int (nI s960), .int (nI (f0 + k)), .ref (q 29)], M941) _
                            have hsl_226 := q226_s.1
                            have htl_226 := hY_946.1.2.2.1
                            refine pr_st (a := 29) (j := f0 + k) rfl hR943 rfl (by omega) (fun M961 R962 i1_229 hR963 hS964 => ?_)
                            have hF_965 := hF_945.mono (fun _ _ => rfl) (rRx hS964 (by decide))
                            have hY_966 := hY_946.mono (fun _ _ => rfl) (rRx hS964 (by decide))
                            have hP_967 := hP_947.mono (fun _ _ => rfl) (rRx hS964 (by decide))
                            have hK_968 := hK_948.mono (fun _ _ => rfl) (rRx hS964 (by decide))
                            have c27_969 := c27_949.mono (fun _ _ => rfl) (rRx hS964 (by decide))
                            have hQ_970 := hQ_950.mono (fun _ _ => rfl) (rRx hS964 (by decide))
                            have c28_971 := c28_952.mono (fun _ _ => rfl) (rRx hS964 (by decide))
                            have hER972 := hER951.st hS964 (by decide)
                            show pl _ _ _ (230, [(6, .int (nI (f0 + k))), (0, .ref m0), (1, .int (nI p)), (2, .int (nI (by2 f pF))), (3, .int (nI f0)), (4, .int (nI k)), (5, .int (nI (by2 f p)))], [], M961) _
                            have c29_973 : CE 29 (f0 + k) (nI s960) I1 R962 := CE.st hS964
                            have hN9_974 := FN.st (I' := I1) hN9_953 hS964 rfl
                            refine ps_st (S' := (231, [(6, .int (nI (f0 + k))), (0, .ref m0), (1, .int (nI p)), (2, .int (nI (by2 f pF))), (3, .int (nI f0)), (4, .int (nI k)), (5, .int (nI (by2 f p)))], [.ref m0], M961)) rfl rfl rfl ?_
                            refine pr_ref (j := 30) (S' := (234, [(6, .int (nI (f0 + k))), (0, .ref m0), (1, .int (nI p)), (2, .int (nI (by2 f pF))), (3, .int (nI f0)), (4, .int (nI k)), (5, .int (nI (by2 f p)))], [.ref (q 30)], M961)) rfl hR963 rfl rfl ?_
                            refine ps_st (S' := (236, [(6, .int (nI (f0 + k))), (0, .ref m0), (1, .int (nI p)), (2, .int (nI (by2 f pF))), (3, .int (nI f0)), (4, .int (nI k)), (5, .int (nI (by2 f p)))], [.int (nI (f0 + k)), .ref (q 30)], M961)) rfl rfl rfl ?_
                            refine ps_st (S' := (237, [(6, .int (nI (f0 + k))), (0, .ref m0), (1, .int (nI p)), (2, .int (nI (by2 f pF))), (3, .int (nI f0)), (4, .int (nI k)), (5, .int (nI (by2 f p)))], [.int 0, .int (nI (f0 + k)), .ref (q 30)], M961)) rfl rfl rfl ?_
                            refine pr_st (a := 30) (j := f0 + k) rfl hR963 rfl (by omega) (fun M975 R976 i1_237 hR977 hS978 => ?_)
                            have hF_979 := hF_965.mono (fun _ _ => rfl) (rRx hS978 (by decide))
                            have hY_980 := hY_966.mono (fun _ _ => rfl) (rRx hS978 (by decide))
                            have hP_981 := hP_967.mono (fun _ _ => rfl) (rRx hS978 (by decide))
                            have hK_982 := hK_968.mono (fun _ _ => rfl) (rRx hS978 (by decide))
                            have c27_983 := c27_969.mono (fun _ _ => rfl) (rRx hS978 (by decide))
                            have c28_984 := c28_971.mono (fun _ _ => rfl) (rRx hS978 (by decide))
                            have c29_985 := c29_973.mono (fun _ _ => rfl) (rRx hS978 (by decide))
                            have hN9_986 := hN9_974.mono (fun _ _ => rfl) (rRx hS978 (by decide))
                            have hER987 := hER972.st hS978 (by decide)
                            show pl _ _ _ (238, [(6, .int (nI (f0 + k))), (0, .ref m0), (1, .int (nI p)), (2, .int (nI (by2 f pF))), (3, .int (nI f0)), (4, .int (nI k)), (5, .int (nI (by2 f p)))], [], M975) _
                            have c30_988 : CE 30 (f0 + k) 0 I1 R976 := CE.st hS978
                            have hQ_989 := FQ.st (I' := I1) hQ_970 hS978 rfl
                            refine ps_st (S' := (239, [(6, .int (nI (f0 + k))), (0, .ref m0), (1, .int (nI p)), (2, .int (nI (by2 f pF))), (3, .int (nI f0)), (4, .int (nI k)), (5, .int (nI (by2 f p)))], [.ref m0], M975)) rfl rfl rfl ?_
                            refine pr_ref (j := 31) (S' := (242, [(6, .int (nI (f0 + k))), (0, .ref m0), (1, .int (nI p)), (2, .int (nI (by2 f pF))), (3, .int (nI f0)), (4, .int (nI k)), (5, .int (nI (by2 f p)))], [.ref (q 31)], M975)) rfl hR977 rfl rfl ?_
                            refine ps_st (S' := (244, [(6, .int (nI (f0 + k))), (0, .ref m0), (1, .int (nI p)), (2, .int (nI (by2 f pF))), (3, .int (nI f0)), (4, .int (nI k)), (5, .int (nI (by2 f p)))], [.int (nI (f0 + k)), .ref (q 31)], M975)) rfl rfl rfl ?_
                            refine ps_st (S' := (245, [(6, .int (nI (f0 + k))), (0, .ref m0), (1, .int (nI p)), (2, .int (nI (by2 f pF))), (3, .int (nI f0)), (4, .int (nI k)), (5, .int (nI (by2 f p)))], [.int 0, .int (nI (f0 + k)), .ref (q 31)], M975)) rfl rfl rfl ?_
                            refine pr_st (a := 31) (j := f0 + k) rfl hR977 rfl (by omega) (fun M990 R991 i1_245 hR992 hS993 => ?_)
                            have hF_994 := hF_979.mono (fun _ _ => rfl) (rRx hS993 (by decide))
                            have hY_995 := hY_980.mono (fun _ _ => rfl) (rRx hS993 (by decide))
                            have hP_996 := hP_981.mono (fun _ _ => rfl) (rRx hS993 (by decide))
                            have hK_997 := hK_982.mono (fun _ _ => rfl) (rRx hS993 (by decide))
                            have c27_998 := c27_983.mono (fun _ _ => rfl) (rRx hS993 (by decide))
                            have c28_999 := c28_984.mono (fun _ _ => rfl) (rRx hS993 (by decide))
                            have c29_1000 := c29_985.mono (fun _ _ => rfl) (rRx hS993 (by decide))
                            have hN9_1001 := hN9_986.mono (fun _ _ => rfl) (rRx hS993 (by decide))
                            have c30_1002 := c30_988.mono (fun _ _ => rfl) (rRx hS993 (by decide))
                            have hER1003 := hER987.st hS993 (by decide)
                            show pl _ _ _ (246, [(6, .int (nI (f0 + k))), (0, .ref m0), (1, .int (nI p)), (2, .int (nI (by2 f pF))), (3, .int (nI f0)), (4, .int (nI k)), (5, .int (nI (by2 f p)))], [], M990) _
                            have c31_1004 : CE 31 (f0 + k) 0 I1 R991 := CE.st hS993
                            have hQ_1005 := FQ.st (I' := I1) hQ_989 hS993 rfl
                            refine ps_st (S' := (247, [(6, .int (nI (f0 + k))), (0, .ref m0), (1, .int (nI p)), (2, .int (nI (by2 f pF))), (3, .int (nI f0)), (4, .int (nI k)), (5, .int (nI (by2 f p)))], [.ref m0], M990)) rfl rfl rfl ?_
                            refine pr_ref (j := 32) (S' := (250, [(6, .int (nI (f0 + k))), (0, .ref m0), (1, .int (nI p)), (2, .int (nI (by2 f pF))), (3, .int (nI f0)), (4, .int (nI k)), (5, .int (nI (by2 f p)))], [.ref (q 32)], M990)) rfl hR992 rfl rfl ?_
                            refine ps_st (S' := (252, [(6, .int (nI (f0 + k))), (0, .ref m0), (1, .int (nI p)), (2, .int (nI (by2 f pF))), (3, .int (nI f0)), (4, .int (nI k)), (5, .int (nI (by2 f p)))], [.int (nI (f0 + k)), .ref (q 32)], M990)) rfl rfl rfl ?_
                            refine ps_st (S' := (253, [(6, .int (nI (f0 + k))), (0, .ref m0), (1, .int (nI p)), (2, .int (nI (by2 f pF))), (3, .int (nI f0)), (4, .int (nI k)), (5, .int (nI (by2 f p)))], [.ref m0, .int (nI (f0 + k)), .ref (q 32)], M990)) rfl rfl rfl ?_
                            refine ps_st (S' := (254, [(6, .int (nI (f0 + k))), (0, .ref m0), (1, .int (nI p)), (2, .int (nI (by2 f pF))), (3, .int (nI f0)), (4, .int (nI k)), (5, .int (nI (by2 f p)))], [.int (nI p), .ref m0, .int (nI (f0 + k)), .ref (q 32)], M990)) rfl rfl rfl ?_
                            refine ps_st (S' := (255, [(6, .int (nI (f0 + k))), (0, .ref m0), (1, .int (nI p)), (2, .int (nI (by2 f pF))), (3, .int (nI f0)), (4, .int (nI k)), (5, .int (nI (by2 f p)))], [.int 2, .int (nI p), .ref m0, .int (nI (f0 + k)), .ref (q 32)], M990)) rfl rfl rfl ?_
                            refine ps_st (S' := (256, [(6, .int (nI (f0 + k))), (0, .ref m0), (1, .int (nI p)), (2, .int (nI (by2 f pF))), (3, .int (nI f0)), (4, .int (nI k)), (5, .int (nI (by2 f p)))], [.int ((nI p) + 2), .ref m0, .int (nI (f0 + k)), .ref (q 32)], M990)) rfl rfl rfl ?_
                            rw [nI_add1 (p := p) (k := 2) (x := 2) rfl (by omega)]
                            show pl _ _ _ (_, [(6, .int (nI (f0 + k))), (0, .ref m0), (1, .int (nI p)), (2, .int (nI (by2 f pF))), (3, .int (nI f0)), (4, .int (nI k)), (5, .int (nI (by2 f p)))], [.int (nI (p + 2)), .ref m0, .int (nI (f0 + k)), .ref (q 32)], M990) _
                            refine pl_call (a := [.ref m0, .int (nI (p + 2))]) (rest := [.int (nI (f0 + k)), .ref (q 32)]) rfl rfl rfl (rd_u2 (n := n) (f := f) (p := (p + 2)) hR992 hF_994 (by omega)) (fun v1006 M1007 q1008 => ?_)
                            obtain ⟨rfl, rfl⟩ := q1008
                            show pl _ _ _ (259, [(6, .int (nI (f0 + k))), (0, .ref m0), (1, .int (nI p)), (2, .int (nI (by2 f pF))), (3, .int (nI f0)), (4, .int (nI k)), (5, .int (nI (by2 f p)))], [.int (nI (by2 f (p + 2))), .int (nI (f0 + k)), .ref (q 32)], M990) _
                            have hu_256 := by2_lt f (p + 2)
                            refine pr_st (a := 32) (j := f0 + k) rfl hR992 rfl (by omega) (fun M1009 R1010 i1_259 hR1011 hS1012 => ?_)
                            have hF_1013 := hF_994.mono (fun _ _ => rfl) (rRx hS1012 (by decide))
                            have hY_1014 := hY_995.mono (fun _ _ => rfl) (rRx hS1012 (by decide))
                            have hP_1015 := hP_996.mono (fun _ _ => rfl) (rRx hS1012 (by decide))
                            have hK_1016 := hK_997.mono (fun _ _ => rfl) (rRx hS1012 (by decide))
                            have c27_1017 := c27_998.mono (fun _ _ => rfl) (rRx hS1012 (by decide))
                            have c28_1018 := c28_999.mono (fun _ _ => rfl) (rRx hS1012 (by decide))
                            have c29_1019 := c29_1000.mono (fun _ _ => rfl) (rRx hS1012 (by decide))
                            have hN9_1020 := hN9_1001.mono (fun _ _ => rfl) (rRx hS1012 (by decide))
                            have c30_1021 := c30_1002.mono (fun _ _ => rfl) (rRx hS1012 (by decide))
                            have c31_1022 := c31_1004.mono (fun _ _ => rfl) (rRx hS1012 (by decide))
                            have hER1023 := hER1003.st hS1012 (by decide)
                            show pl _ _ _ (260, [(6, .int (nI (f0 + k))), (0, .ref m0), (1, .int (nI p)), (2, .int (nI (by2 f pF))), (3, .int (nI f0)), (4, .int (nI k)), (5, .int (nI (by2 f p)))], [], M1009) _
                            have c32_1024 : CE 32 (f0 + k) (nI (by2 f (p + 2))) I1 R1010 := CE.st hS1012
                            have hQ_1025 := FQ.st (I' := I1) hQ_1005 hS1012 rfl
                            refine ps_st (S' := (261, [(6, .int (nI (f0 + k))), (0, .ref m0), (1, .int (nI p)), (2, .int (nI (by2 f pF))), (3, .int (nI f0)), (4, .int (nI k)), (5, .int (nI (by2 f p)))], [.ref m0], M1009)) rfl rfl rfl ?_
                            refine pr_ref (j := 33) (S' := (264, [(6, .int (nI (f0 + k))), (0, .ref m0), (1, .int (nI p)), (2, .int (nI (by2 f pF))), (3, .int (nI f0)), (4, .int (nI k)), (5, .int (nI (by2 f p)))], [.ref (q 33)], M1009)) rfl hR1011 rfl rfl ?_
                            refine ps_st (S' := (266, [(6, .int (nI (f0 + k))), (0, .ref m0), (1, .int (nI p)), (2, .int (nI (by2 f pF))), (3, .int (nI f0)), (4, .int (nI k)), (5, .int (nI (by2 f p)))], [.int (nI (f0 + k)), .ref (q 33)], M1009)) rfl rfl rfl ?_
                            refine ps_st (S' := (267, [(6, .int (nI (f0 + k))), (0, .ref m0), (1, .int (nI p)), (2, .int (nI (by2 f pF))), (3, .int (nI f0)), (4, .int (nI k)), (5, .int (nI (by2 f p)))], [.ref m0, .int (nI (f0 + k)), .ref (q 33)], M1009)) rfl rfl rfl ?_
                            refine ps_st (S' := (268, [(6, .int (nI (f0 + k))), (0, .ref m0), (1, .int (nI p)), (2, .int (nI (by2 f pF))), (3, .int (nI f0)), (4, .int (nI k)), (5, .int (nI (by2 f p)))], [.int (nI p), .ref m0, .int (nI (f0 + k)), .ref (q 33)], M1009)) rfl rfl rfl ?_
                            refine ps_st (S' := (269, [(6, .int (nI (f0 + k))), (0, .ref m0), (1, .int (nI p)), (2, .int (nI (by2 f pF))), (3, .int (nI f0)), (4, .int (nI k)), (5, .int (nI (by2 f p)))], [.int 4, .int (nI p), .ref m0, .int (nI (f0 + k)), .ref (q 33)], M1009)) rfl rfl rfl ?_
                            refine ps_st (S' := (270, [(6, .int (nI (f0 + k))), (0, .ref m0), (1, .int (nI p)), (2, .int (nI (by2 f pF))), (3, .int (nI f0)), (4, .int (nI k)), (5, .int (nI (by2 f p)))], [.int ((nI p) + 4), .ref m0, .int (nI (f0 + k)), .ref (q 33)], M1009)) rfl rfl rfl ?_
                            rw [nI_add1 (p := p) (k := 4) (x := 4) rfl (by omega)]
                            show pl _ _ _ (_, [(6, .int (nI (f0 + k))), (0, .ref m0), (1, .int (nI p)), (2, .int (nI (by2 f pF))), (3, .int (nI f0)), (4, .int (nI k)), (5, .int (nI (by2 f p)))], [.int (nI (p + 4)), .ref m0, .int (nI (f0 + k)), .ref (q 33)], M1009) _
                            refine pl_call (a := [.ref m0, .int (nI (p + 4))]) (rest := [.int (nI (f0 + k)), .ref (q 33)]) rfl rfl rfl (rd_u2 (n := n) (f := f) (p := (p + 4)) hR1011 hF_1013 (by omega)) (fun v1026 M1027 q1028 => ?_)
                            obtain ⟨rfl, rfl⟩ := q1028
                            show pl _ _ _ (273, [(6, .int (nI (f0 + k))), (0, .ref m0), (1, .int (nI p)), (2, .int (nI (by2 f pF))), (3, .int (nI f0)), (4, .int (nI k)), (5, .int (nI (by2 f p)))], [.int (nI (by2 f (p + 4))), .int (nI (f0 + k)), .ref (q 33)], M1009) _
                            have hu_270 := by2_lt f (p + 4)
                            refine pr_st (a := 33) (j := f0 + k) rfl hR1011 rfl (by omega) (fun M1029 R1030 i1_273 hR1031 hS1032 => ?_)
                            have hF_1033 := hF_1013.mono (fun _ _ => rfl) (rRx hS1032 (by decide))
                            have hY_1034 := hY_1014.mono (fun _ _ => rfl) (rRx hS1032 (by decide))
                            have hP_1035 := hP_1015.mono (fun _ _ => rfl) (rRx hS1032 (by decide))
                            have hK_1036 := hK_1016.mono (fun _ _ => rfl) (rRx hS1032 (by decide))
                            have c27_1037 := c27_1017.mono (fun _ _ => rfl) (rRx hS1032 (by decide))
                            have c28_1038 := c28_1018.mono (fun _ _ => rfl) (rRx hS1032 (by decide))
                            have c29_1039 := c29_1019.mono (fun _ _ => rfl) (rRx hS1032 (by decide))
                            have hN9_1040 := hN9_1020.mono (fun _ _ => rfl) (rRx hS1032 (by decide))
                            have c30_1041 := c30_1021.mono (fun _ _ => rfl) (rRx hS1032 (by decide))
                            have c31_1042 := c31_1022.mono (fun _ _ => rfl) (rRx hS1032 (by decide))
                            have c32_1043 := c32_1024.mono (fun _ _ => rfl) (rRx hS1032 (by decide))
                            have hER1044 := hER1023.st hS1032 (by decide)
                            show pl _ _ _ (274, [(6, .int (nI (f0 + k))), (0, .ref m0), (1, .int (nI p)), (2, .int (nI (by2 f pF))), (3, .int (nI f0)), (4, .int (nI k)), (5, .int (nI (by2 f p)))], [], M1029) _
                            have c33_1045 : CE 33 (f0 + k) (nI (by2 f (p + 4))) I1 R1030 := CE.st hS1032
                            have hQ_1046 := FQ.st (I' := I1) hQ_1025 hS1032 rfl
                            refine ps_st (S' := (275, [(6, .int (nI (f0 + k))), (0, .ref m0), (1, .int (nI p)), (2, .int (nI (by2 f pF))), (3, .int (nI f0)), (4, .int (nI k)), (5, .int (nI (by2 f p)))], [.int (nI f0)], M1029)) rfl rfl rfl ?_
                            refine ps_st (S' := (277, [(0, .ref m0), (1, .int (nI p)), (2, .int (nI (by2 f pF))), (3, .int (nI f0)), (4, .int (nI k)), (6, .int (nI (f0 + k))), (7, .int (nI f0))], [], M1029)) rfl rfl rfl ?_
                            have h19 : ¬ fflN cf (by2 f p) = 0 := by
                              have e1 := ffl_0 cf (by2 f p)
                              have e2 := sev_0 (by2 f p)
                              have e3 := hall_80 (by2 f p)
                              omega
                            exact ih.2 (k) (p) (0) (s940) (s960) M1029 I1 R1030 hR1031 hEI1 hER1044 hl51 hl52 hl53 hl58 hl55 hl25 hF_1033 hY_1034 hP_1035 hK_1036 hN9_1040 c27_1037 c28_1038 c29_1039 hQ_1046 c30_1041 c31_1042 c32_1043 c33_1045 (by omega) (hpk) (by omega) (hs) (by omega) (by omega) (q208_s) (q226_s) (by omega) (by omega) (h19) (by omega) (by omega) (rfl)
                          · have c_166 : ¬ (¬ (nI (fldN (tX f n E (by2 f (p + 4))))) = 0) := of_decide_eq_false c_166
                            have n_166 : fldN (tX f n E (by2 f (p + 4))) = 0 := (eq_nI (p := fldN (tX f n E (by2 f (p + 4)))) (n := 0) (Nat.lt_trans (le1_fld _) (by decide)) (by decide)).mp (Decidable.not_not.mp c_166)
                            refine ps_st (S' := (170, [(0, .ref m0), (1, .int (nI p))], [.ref m0], M1)) rfl rfl rfl ?_
                            refine ps_st (S' := (172, [(0, .ref m0), (1, .int (nI p))], [.int 21, .ref m0], M1)) rfl rfl rfl ?_
                            refine ps_st (S' := (173, [(0, .ref m0), (1, .int (nI p))], [.int (nI p), .int 21, .ref m0], M1)) rfl rfl rfl ?_
                            refine ps_st (S' := (174, [(0, .ref m0), (1, .int (nI p))], [.int 4, .int (nI p), .int 21, .ref m0], M1)) rfl rfl rfl ?_
                            refine ps_st (S' := (175, [(0, .ref m0), (1, .int (nI p))], [.int ((nI p) + 4), .int 21, .ref m0], M1)) rfl rfl rfl ?_
                            rw [nI_add1 (p := p) (k := 4) (x := 4) rfl (by omega)]
                            show pl _ _ _ (_, [(0, .ref m0), (1, .int (nI p))], [.int (nI (p + 4)), .int 21, .ref m0], M1) _
                            refine pl_call (a := [.ref m0, .int 21, .int (nI (p + 4))]) (rest := []) rfl rfl rfl (rd_wrong (x1 := 21) (x2 := (nI (p + 4))) hR1) (fun v1047 M1048 q1049 => ?_)
                            obtain ⟨I1050, R1051, rfl, hR1052, hI1053, hX1054, hi1055, hi1056⟩ := q1049
                            have hi1057 := (hI1053 51 (by decide)).trans hl51
                            have hi1058 := (hI1053 52 (by decide)).trans hl52
                            have hi1059 := (hI1053 53 (by decide)).trans hl53
                            have hi1060 := (hI1053 58 (by decide)).trans hl58
                            have hi1061 := (hI1053 55 (by decide)).trans hl55
                            have hi1062 := (hI1053 25 (by decide)).trans hl25
                            have hF_1063 := hF1.mono (cIx hI1053 (by decide)) (cRx hX1054 (by decide))
                            have hY_1064 := hY1.mono (cIx hI1053 (by decide)) (cRx hX1054 (by decide))
                            have hP_1065 := hP1.mono (cIx hI1053 (by decide)) (cRx hX1054 (by decide))
                            have hK_1066 := hK1.mono (cIx hI1053 (by decide)) (cRx hX1054 (by decide))
                            have hN9_1067 := hN91.mono (cIx hI1053 (by decide)) (cRx hX1054 (by decide))
                            have hQ_1068 := hQ1.mono (cIx hI1053 (by decide)) (cRx hX1054 (by decide))
                            have hEI1069 := hEI1.tr hI1053 (by decide)
                            have hER1070 := hER1.tr hX1054 (by decide)
                            show pl _ _ _ (178, [(0, .ref m0), (1, .int (nI p))], [.int 0], M1048) _
                            exact ps_ret rfl rfl (Or.inr ⟨(21, p + 4), I1050, R1051, by
                                rw [← hs, flS_st (i := k) (by omega), ← hpk, fh_21 (by have e1 := ffl_0 cf (by2 f p); have e2 := sev_0 (by2 f p); have e3 := hall_80 (by2 f p); omega) (by omega) (by omega)], rfl, hR1052, hEI1069, hER1070, hi1055, hi1056⟩)
                      · have c_123 : ¬ (¬ (nI (unqN (tX f n E (by2 f (p + 2))))) = 0) := of_decide_eq_false c_123
                        have n_123 : unqN (tX f n E (by2 f (p + 2))) = 0 := (eq_nI (p := unqN (tX f n E (by2 f (p + 2)))) (n := 0) (Nat.lt_trans (le1_unq _) (by decide)) (by decide)).mp (Decidable.not_not.mp c_123)
                        refine ps_st (S' := (127, [(0, .ref m0), (1, .int (nI p))], [.ref m0], M1)) rfl rfl rfl ?_
                        refine ps_st (S' := (129, [(0, .ref m0), (1, .int (nI p))], [.int 20, .ref m0], M1)) rfl rfl rfl ?_
                        refine ps_st (S' := (130, [(0, .ref m0), (1, .int (nI p))], [.int (nI p), .int 20, .ref m0], M1)) rfl rfl rfl ?_
                        refine ps_st (S' := (131, [(0, .ref m0), (1, .int (nI p))], [.int 2, .int (nI p), .int 20, .ref m0], M1)) rfl rfl rfl ?_
                        refine ps_st (S' := (132, [(0, .ref m0), (1, .int (nI p))], [.int ((nI p) + 2), .int 20, .ref m0], M1)) rfl rfl rfl ?_
                        rw [nI_add1 (p := p) (k := 2) (x := 2) rfl (by omega)]
                        show pl _ _ _ (_, [(0, .ref m0), (1, .int (nI p))], [.int (nI (p + 2)), .int 20, .ref m0], M1) _
                        refine pl_call (a := [.ref m0, .int 20, .int (nI (p + 2))]) (rest := []) rfl rfl rfl (rd_wrong (x1 := 20) (x2 := (nI (p + 2))) hR1) (fun v1071 M1072 q1073 => ?_)
                        obtain ⟨I1074, R1075, rfl, hR1076, hI1077, hX1078, hi1079, hi1080⟩ := q1073
                        have hi1081 := (hI1077 51 (by decide)).trans hl51
                        have hi1082 := (hI1077 52 (by decide)).trans hl52
                        have hi1083 := (hI1077 53 (by decide)).trans hl53
                        have hi1084 := (hI1077 58 (by decide)).trans hl58
                        have hi1085 := (hI1077 55 (by decide)).trans hl55
                        have hi1086 := (hI1077 25 (by decide)).trans hl25
                        have hF_1087 := hF1.mono (cIx hI1077 (by decide)) (cRx hX1078 (by decide))
                        have hY_1088 := hY1.mono (cIx hI1077 (by decide)) (cRx hX1078 (by decide))
                        have hP_1089 := hP1.mono (cIx hI1077 (by decide)) (cRx hX1078 (by decide))
                        have hK_1090 := hK1.mono (cIx hI1077 (by decide)) (cRx hX1078 (by decide))
                        have hN9_1091 := hN91.mono (cIx hI1077 (by decide)) (cRx hX1078 (by decide))
                        have hQ_1092 := hQ1.mono (cIx hI1077 (by decide)) (cRx hX1078 (by decide))
                        have hEI1093 := hEI1.tr hI1077 (by decide)
                        have hER1094 := hER1.tr hX1078 (by decide)
                        show pl _ _ _ (135, [(0, .ref m0), (1, .int (nI p))], [.int 0], M1072) _
                        exact ps_ret rfl rfl (Or.inr ⟨(20, p + 2), I1074, R1075, by
                            rw [← hs, flS_st (i := k) (by omega), ← hpk, fh_20 (by have e1 := ffl_0 cf (by2 f p); have e2 := sev_0 (by2 f p); have e3 := hall_80 (by2 f p); omega) (by omega)], rfl, hR1076, hEI1093, hER1094, hi1079, hi1080⟩)
                  · have c_81 : ¬ ((nI (aN (by2 f p) 16607)) = 25) := of_decide_eq_false c_81
                    have n_81 : ¬ (aN (by2 f p) 16607 = 25) := fun h9 => c_81 ((eq_nI (p := aN (by2 f p) 16607) (n := 25) (Nat.lt_of_le_of_lt (an_le _ _) (by decide)) (by decide)).mpr h9)
                    refine ps_st (S' := (85, [(0, .ref m0), (1, .int (nI p))], [.ref m0], M1)) rfl rfl rfl ?_
                    refine ps_st (S' := (87, [(0, .ref m0), (1, .int (nI p))], [.int 19, .ref m0], M1)) rfl rfl rfl ?_
                    refine ps_st (S' := (88, [(0, .ref m0), (1, .int (nI p))], [.int (nI p), .int 19, .ref m0], M1)) rfl rfl rfl ?_
                    refine pl_call (a := [.ref m0, .int 19, .int (nI p)]) (rest := []) rfl rfl rfl (rd_wrong (x1 := 19) (x2 := (nI p)) hR1) (fun v1095 M1096 q1097 => ?_)
                    obtain ⟨I1098, R1099, rfl, hR1100, hI1101, hX1102, hi1103, hi1104⟩ := q1097
                    have hi1105 := (hI1101 51 (by decide)).trans hl51
                    have hi1106 := (hI1101 52 (by decide)).trans hl52
                    have hi1107 := (hI1101 53 (by decide)).trans hl53
                    have hi1108 := (hI1101 58 (by decide)).trans hl58
                    have hi1109 := (hI1101 55 (by decide)).trans hl55
                    have hi1110 := (hI1101 25 (by decide)).trans hl25
                    have hF_1111 := hF1.mono (cIx hI1101 (by decide)) (cRx hX1102 (by decide))
                    have hY_1112 := hY1.mono (cIx hI1101 (by decide)) (cRx hX1102 (by decide))
                    have hP_1113 := hP1.mono (cIx hI1101 (by decide)) (cRx hX1102 (by decide))
                    have hK_1114 := hK1.mono (cIx hI1101 (by decide)) (cRx hX1102 (by decide))
                    have hN9_1115 := hN91.mono (cIx hI1101 (by decide)) (cRx hX1102 (by decide))
                    have hQ_1116 := hQ1.mono (cIx hI1101 (by decide)) (cRx hX1102 (by decide))
                    have hEI1117 := hEI1.tr hI1101 (by decide)
                    have hER1118 := hER1.tr hX1102 (by decide)
                    show pl _ _ _ (91, [(0, .ref m0), (1, .int (nI p))], [.int 0], M1096) _
                    exact ps_ret rfl rfl (Or.inr ⟨(19, p), I1098, R1099, by
                        rw [← hs, flS_st (i := k) (by omega), ← hpk, fh_19 (by have e1 := ffl_0 cf (by2 f p); have e2 := sev_0 (by2 f p); have e3 := hall_80 (by2 f p); omega)], rfl, hR1100, hEI1117, hER1118, hi1103, hi1104⟩)
      · skip
        intro k p j a d M1 I1 R1 hR1 hEI1 hER1 hl51 hl52 hl53 hl58 hl55 hl25 hF1 hY1 hP1 hK1 hN91 c271 c281 c291 hQ1 c301 c311 c321 c331 hk0 hpk hpe hs hj hx hsa hsd ht1 ht2 h19 h20 h21 hd9
        have hn := hF1.1
        have hu9 := by2_lt f pF
        have htl := hY1.1.2.2.1
        have hBl := hMB.1
        refine ps_st1 (S' := (279, [(0, .ref m0), (1, .int (nI p)), (2, .int (nI (by2 f pF))), (3, .int (nI f0)), (4, .int (nI k)), (6, .int (nI (f0 + k))), (7, .int (nI (f0 + j)))], [.int (nI (f0 + j))], M1)) rfl rfl rfl ?_
        refine ps_st (S' := (281, [(0, .ref m0), (1, .int (nI p)), (2, .int (nI (by2 f pF))), (3, .int (nI f0)), (4, .int (nI k)), (6, .int (nI (f0 + k))), (7, .int (nI (f0 + j)))], [.int (nI (f0 + k)), .int (nI (f0 + j))], M1)) rfl rfl rfl ?_
        refine ps_if2 (S1 := (332, [(0, .ref m0), (1, .int (nI p)), (2, .int (nI (by2 f pF))), (3, .int (nI f0)), (4, .int (nI k)), (6, .int (nI (f0 + k))), (7, .int (nI (f0 + j)))], [], M1)) (S2 := (284, [(0, .ref m0), (1, .int (nI p)), (2, .int (nI (by2 f pF))), (3, .int (nI f0)), (4, .int (nI k)), (6, .int (nI (f0 + k))), (7, .int (nI (f0 + j)))], [], M1)) rfl rfl rfl (fun c_281 => ?_) (fun c_281 => ?_)
        · have c_281 : (nI (f0 + k)) ≤ (nI (f0 + j)) := of_decide_eq_true c_281
          have n_281 : f0 + k ≤ f0 + j := (le_nI (p := f0 + k) (n := f0 + j) (by omega) (by omega)).mp c_281
          refine ps_st (S' := (333, [(0, .ref m0), (1, .int (nI p)), (2, .int (nI (by2 f pF))), (3, .int (nI f0)), (4, .int (nI k)), (6, .int (nI (f0 + k))), (7, .int (nI (f0 + j)))], [.ref m0], M1)) rfl rfl rfl ?_
          refine ps_st (S' := (334, [(0, .ref m0), (1, .int (nI p)), (2, .int (nI (by2 f pF))), (3, .int (nI f0)), (4, .int (nI k)), (6, .int (nI (f0 + k))), (7, .int (nI (f0 + j)))], [.ref m0, .ref m0], M1)) rfl rfl rfl ?_
          refine pr_int (j := 25) (S' := (337, [(0, .ref m0), (1, .int (nI p)), (2, .int (nI (by2 f pF))), (3, .int (nI f0)), (4, .int (nI k)), (6, .int (nI (f0 + k))), (7, .int (nI (f0 + j)))], [.int (nI (f0 + k)), .ref m0], M1)) rfl hR1 rfl hl25 rfl ?_
          refine ps_st (S' := (338, [(0, .ref m0), (1, .int (nI p)), (2, .int (nI (by2 f pF))), (3, .int (nI f0)), (4, .int (nI k)), (6, .int (nI (f0 + k))), (7, .int (nI (f0 + j)))], [.int 1, .int (nI (f0 + k)), .ref m0], M1)) rfl rfl rfl ?_
          refine ps_st (S' := (339, [(0, .ref m0), (1, .int (nI p)), (2, .int (nI (by2 f pF))), (3, .int (nI f0)), (4, .int (nI k)), (6, .int (nI (f0 + k))), (7, .int (nI (f0 + j)))], [.int ((nI (f0 + k)) + 1), .ref m0], M1)) rfl rfl rfl ?_
          rw [nI_add1 (p := f0 + k) (k := 1) (x := 1) rfl (by omega)]
          show pl _ _ _ (_, [(0, .ref m0), (1, .int (nI p)), (2, .int (nI (by2 f pF))), (3, .int (nI f0)), (4, .int (nI k)), (6, .int (nI (f0 + k))), (7, .int (nI (f0 + j)))], [.int (nI (f0 + k + 1)), .ref m0], M1) _
          refine pr_put (j := 25) rfl hR1 rfl (fun M1119 I1120 hR1121 hi1122 hI1123 => ?_)
          have hi1124 := (hI1123 51 (by decide)).trans hl51
          have hi1125 := (hI1123 52 (by decide)).trans hl52
          have hi1126 := (hI1123 53 (by decide)).trans hl53
          have hi1127 := (hI1123 58 (by decide)).trans hl58
          have hi1128 := (hI1123 55 (by decide)).trans hl55
          have hF_1129 := hF1.mono (pIx hI1123 (by decide)) (fun _ _ => rfl)
          have hY_1130 := hY1.mono (pIx hI1123 (by decide)) (fun _ _ => rfl)
          have hP_1131 := hP1.mono (pIx hI1123 (by decide)) (fun _ _ => rfl)
          have hK_1132 := hK1.mono (pIx hI1123 (by decide)) (fun _ _ => rfl)
          have hN9_1133 := hN91.mono (pIx hI1123 (by decide)) (fun _ _ => rfl)
          have c27_1134 := c271.mono (pIx hI1123 (by decide)) (fun _ _ => rfl)
          have c28_1135 := c281.mono (pIx hI1123 (by decide)) (fun _ _ => rfl)
          have c29_1136 := c291.mono (pIx hI1123 (by decide)) (fun _ _ => rfl)
          have hQ_1137 := hQ1.mono (pIx hI1123 (by decide)) (fun _ _ => rfl)
          have c30_1138 := c301.mono (pIx hI1123 (by decide)) (fun _ _ => rfl)
          have c31_1139 := c311.mono (pIx hI1123 (by decide)) (fun _ _ => rfl)
          have c32_1140 := c321.mono (pIx hI1123 (by decide)) (fun _ _ => rfl)
          have c33_1141 := c331.mono (pIx hI1123 (by decide)) (fun _ _ => rfl)
          have hEI1142 := hEI1.put hI1123 (by decide)
          show pl _ _ _ (342, [(0, .ref m0), (1, .int (nI p)), (2, .int (nI (by2 f pF))), (3, .int (nI f0)), (4, .int (nI k)), (6, .int (nI (f0 + k))), (7, .int (nI (f0 + j)))], [], M1119) _
          refine ps_st (S' := (343, [(0, .ref m0), (1, .int (nI p)), (2, .int (nI (by2 f pF))), (3, .int (nI f0)), (4, .int (nI k)), (6, .int (nI (f0 + k))), (7, .int (nI (f0 + j)))], [.ref m0], M1119)) rfl rfl rfl ?_
          refine ps_st (S' := (344, [(0, .ref m0), (1, .int (nI p)), (2, .int (nI (by2 f pF))), (3, .int (nI f0)), (4, .int (nI k)), (6, .int (nI (f0 + k))), (7, .int (nI (f0 + j)))], [.int (nI p), .ref m0], M1119)) rfl rfl rfl ?_
          refine ps_st (S' := (346, [(0, .ref m0), (1, .int (nI p)), (2, .int (nI (by2 f pF))), (3, .int (nI f0)), (4, .int (nI k)), (6, .int (nI (f0 + k))), (7, .int (nI (f0 + j)))], [.int 6, .int (nI p), .ref m0], M1119)) rfl rfl rfl ?_
          refine ps_st (S' := (347, [(0, .ref m0), (1, .int (nI p)), (2, .int (nI (by2 f pF))), (3, .int (nI f0)), (4, .int (nI k)), (6, .int (nI (f0 + k))), (7, .int (nI (f0 + j)))], [.int ((nI p) + 6), .ref m0], M1119)) rfl rfl rfl ?_
          rw [nI_add1 (p := p) (k := 6) (x := 6) rfl (by omega)]
          show pl _ _ _ (_, [(0, .ref m0), (1, .int (nI p)), (2, .int (nI (by2 f pF))), (3, .int (nI f0)), (4, .int (nI k)), (6, .int (nI (f0 + k))), (7, .int (nI (f0 + j)))], [.int (nI (p + 6)), .ref m0], M1119) _
          refine ps_st (S' := (348, [(0, .ref m0), (1, .int (nI p)), (2, .int (nI (by2 f pF))), (3, .int (nI f0)), (4, .int (nI k)), (6, .int (nI (f0 + k))), (7, .int (nI (f0 + j)))], [.int 1, .int (nI (p + 6)), .ref m0], M1119)) rfl rfl rfl ?_
          refine ps_st (S' := (350, [(0, .ref m0), (1, .int (nI p)), (2, .int (nI (by2 f pF))), (3, .int (nI f0)), (4, .int (nI k)), (6, .int (nI (f0 + k))), (7, .int (nI (f0 + j)))], [.int (nI (f0 + k)), .int 1, .int (nI (p + 6)), .ref m0], M1119)) rfl rfl rfl ?_
          have hm9 := hMB.2.2.2 k (by omega)
          rw [← hpk] at hm9
          have hX9 : FX (by2 f p) d (f0 + k) I1120 R1 := ⟨c27_1134, c29_1136⟩
          have hu8 := by2_lt f p
          have hW9 : FW (f0 + k) (0, 0) R1 I1120 R1 := ⟨c30_1138, c31_1139, fun _ _ => ⟨rfl, rfl⟩⟩
          refine pl_call (a := [.ref m0, .int (nI (p + 6)), .int 1, .int (nI (f0 + k))]) (rest := []) rfl rfl rfl (rd_checkAttributes17 (n := n) (f := f) (tx := tx) (cN := cN) (A := A) (N := N) (mj := mj) (E := E) (p1 := (p + 6)) (e := (E1 k)) (x := (f0 + k)) (fl := (by2 f p)) (ds := d) (l := (tX f n E (by2 f (p + 4)))) (R0 := R1) hR1121 hi1124 hi1125 hi1126 hF_1129 hY_1130 hP_1131 hK_1132 hX9 hW9 (hEP) (hN) (hmj) (⟨by omega, by omega⟩) (hm9.2.2.1) (hx) (hsd) (h21) (hu8)) (fun v1143 M1144 q1145 => ?_)
          rcases q1145 with q1145 | q1145
          · skip
            obtain ⟨e91146, I1147, R1148, q350_s, rfl, hR1149, hI1150, hX1151, hi1152, hi1153⟩ := q1145
            have hi1154 := (hI1150 51 (by decide)).trans hi1124
            have hi1155 := (hI1150 52 (by decide)).trans hi1125
            have hi1156 := (hI1150 53 (by decide)).trans hi1126
            have hi1157 := (hI1150 58 (by decide)).trans hi1127
            have hi1158 := (hI1150 55 (by decide)).trans hi1128
            have hi1159 := (hI1150 25 (by decide)).trans hi1122
            have hF_1160 := hF_1129.mono (cIx hI1150 (by decide)) (cRx hX1151 (by decide))
            have hY_1161 := hY_1130.mono (cIx hI1150 (by decide)) (cRx hX1151 (by decide))
            have hP_1162 := hP_1131.mono (cIx hI1150 (by decide)) (cRx hX1151 (by decide))
            have hK_1163 := hK_1132.mono (cIx hI1150 (by decide)) (cRx hX1151 (by decide))
            have hN9_1164 := hN9_1133.mono (cIx hI1150 (by decide)) (cRx hX1151 (by decide))
            have c27_1165 := c27_1134.mono (cIx hI1150 (by decide)) (cRx hX1151 (by decide))
            have c28_1166 := c28_1135.mono (cIx hI1150 (by decide)) (cRx hX1151 (by decide))
            have c29_1167 := c29_1136.mono (cIx hI1150 (by decide)) (cRx hX1151 (by decide))
            have c32_1168 := c32_1140.mono (cIx hI1150 (by decide)) (cRx hX1151 (by decide))
            have c33_1169 := c33_1141.mono (cIx hI1150 (by decide)) (cRx hX1151 (by decide))
            have hX_1170 := hX9.mono (cIx hI1150 (by decide)) (cRx hX1151 (by decide))
            have hEI1171 := hEI1142.tr hI1150 (by decide)
            have hER1172 := hER1.tr hX1151 (by decide)
            show pl _ _ _ (353, [(0, .ref m0), (1, .int (nI p)), (2, .int (nI (by2 f pF))), (3, .int (nI f0)), (4, .int (nI k)), (6, .int (nI (f0 + k))), (7, .int (nI (f0 + j)))], [.int (-1)], M1144) _
            refine ps_st (S' := (354, [(1, .int (-1)), (0, .ref m0), (2, .int (nI (by2 f pF))), (3, .int (nI f0)), (4, .int (nI k)), (6, .int (nI (f0 + k))), (7, .int (nI (f0 + j)))], [], M1144)) rfl rfl rfl ?_
            refine ps_st (S' := (355, [(1, .int (-1)), (0, .ref m0), (2, .int (nI (by2 f pF))), (3, .int (nI f0)), (4, .int (nI k)), (6, .int (nI (f0 + k))), (7, .int (nI (f0 + j)))], [.int (-1)], M1144)) rfl rfl rfl ?_
            refine ps_if (S1 := (360, [(1, .int (-1)), (0, .ref m0), (2, .int (nI (by2 f pF))), (3, .int (nI f0)), (4, .int (nI k)), (6, .int (nI (f0 + k))), (7, .int (nI (f0 + j)))], [], M1144)) (S2 := (358, [(1, .int (-1)), (0, .ref m0), (2, .int (nI (by2 f pF))), (3, .int (nI f0)), (4, .int (nI k)), (6, .int (nI (f0 + k))), (7, .int (nI (f0 + j)))], [], M1144)) rfl rfl rfl (fun c_355 => ?_) (fun c_355 => ?_)
            · exact absurd (of_decide_eq_true c_355) (by decide)
            refine ps_st (S' := (359, [(1, .int (-1)), (0, .ref m0), (2, .int (nI (by2 f pF))), (3, .int (nI f0)), (4, .int (nI k)), (6, .int (nI (f0 + k))), (7, .int (nI (f0 + j)))], [.int 0], M1144)) rfl rfl rfl ?_
            exact ps_ret rfl rfl (Or.inr ⟨e91146, I1147, R1148, by
                rw [← hs, flS_st (i := k) (by omega), ← hpk, fh_n hpk h19 h20 h21 (by rw [← hd9, show k - j = 0 by omega]; rfl), q350_s], rfl, hR1149, hEI1171, hER1172, hi1152, hi1153⟩)
          · skip
            obtain ⟨K1173, I1174, R1175, q350_s, q350_U, rfl, hR1176, hI1177, hX1178, hW_1179⟩ := q1145
            have hi1180 := (hI1177 51 (by decide)).trans hi1124
            have hi1181 := (hI1177 52 (by decide)).trans hi1125
            have hi1182 := (hI1177 53 (by decide)).trans hi1126
            have hi1183 := (hI1177 58 (by decide)).trans hi1127
            have hi1184 := (hI1177 55 (by decide)).trans hi1128
            have hi1185 := (hI1177 25 (by decide)).trans hi1122
            have hF_1186 := hF_1129.mono (cIx hI1177 (by decide)) (cRx hX1178 (by decide))
            have hY_1187 := hY_1130.mono (cIx hI1177 (by decide)) (cRx hX1178 (by decide))
            have hP_1188 := hP_1131.mono (cIx hI1177 (by decide)) (cRx hX1178 (by decide))
            have hK_1189 := hK_1132.mono (cIx hI1177 (by decide)) (cRx hX1178 (by decide))
            have hN9_1190 := hN9_1133.mono (cIx hI1177 (by decide)) (cRx hX1178 (by decide))
            have c27_1191 := c27_1134.mono (cIx hI1177 (by decide)) (cRx hX1178 (by decide))
            have c28_1192 := c28_1135.mono (cIx hI1177 (by decide)) (cRx hX1178 (by decide))
            have c29_1193 := c29_1136.mono (cIx hI1177 (by decide)) (cRx hX1178 (by decide))
            have c32_1194 := c32_1140.mono (cIx hI1177 (by decide)) (cRx hX1178 (by decide))
            have c33_1195 := c33_1141.mono (cIx hI1177 (by decide)) (cRx hX1178 (by decide))
            have hX_1196 := hX9.mono (cIx hI1177 (by decide)) (cRx hX1178 (by decide))
            have hEI1197 := hEI1142.tr hI1177 (by decide)
            have hER1198 := hER1.tr hX1178 (by decide)
            show pl _ _ _ (353, [(0, .ref m0), (1, .int (nI p)), (2, .int (nI (by2 f pF))), (3, .int (nI f0)), (4, .int (nI k)), (6, .int (nI (f0 + k))), (7, .int (nI (f0 + j)))], [.int (nI (E1 k))], M1144) _
            have hQ7 := FQ.ex hQ_1137 hX1178 hW_1179
            refine ps_st (S' := (354, [(1, .int (nI (E1 k))), (0, .ref m0), (2, .int (nI (by2 f pF))), (3, .int (nI f0)), (4, .int (nI k)), (6, .int (nI (f0 + k))), (7, .int (nI (f0 + j)))], [], M1144)) rfl rfl rfl ?_
            refine ps_st (S' := (355, [(1, .int (nI (E1 k))), (0, .ref m0), (2, .int (nI (by2 f pF))), (3, .int (nI f0)), (4, .int (nI k)), (6, .int (nI (f0 + k))), (7, .int (nI (f0 + j)))], [.int (nI (E1 k))], M1144)) rfl rfl rfl ?_
            refine ps_if (S1 := (360, [(1, .int (nI (E1 k))), (0, .ref m0), (2, .int (nI (by2 f pF))), (3, .int (nI f0)), (4, .int (nI k)), (6, .int (nI (f0 + k))), (7, .int (nI (f0 + j)))], [], M1144)) (S2 := (358, [(1, .int (nI (E1 k))), (0, .ref m0), (2, .int (nI (by2 f pF))), (3, .int (nI f0)), (4, .int (nI k)), (6, .int (nI (f0 + k))), (7, .int (nI (f0 + j)))], [], M1144)) rfl rfl rfl (fun c_355 => ?_) (fun c_355 => ?_)
            rotate_left
            · exact absurd ((le_nI (p := 0) (n := E1 k) (by decide) (by omega)).mpr (by omega)) (of_decide_eq_false c_355)
            refine ps_st (S' := (363, [(4, .int ((nI k) + 1)), (1, .int (nI (E1 k))), (0, .ref m0), (2, .int (nI (by2 f pF))), (3, .int (nI f0)), (6, .int (nI (f0 + k))), (7, .int (nI (f0 + j)))], [], M1144)) rfl rfl rfl ?_
            rw [nI_add1 (p := k) (k := 1) (x := 1) rfl (by omega)]
            show pl _ _ _ (_, [(4, .int (nI (k + 1))), (1, .int (nI (E1 k))), (0, .ref m0), (2, .int (nI (by2 f pF))), (3, .int (nI f0)), (6, .int (nI (f0 + k))), (7, .int (nI (f0 + j)))], [], M1144) _
            refine ps_st (S' := (22, [(0, .ref m0), (1, .int (nI (E1 k))), (2, .int (nI (by2 f pF))), (3, .int (nI f0)), (4, .int (nI (k + 1)))], [], M1144)) rfl rfl rfl ?_
            have hQ8 := FQ.more hQ7 hpk hW_1179 q350_U c27_1191 c32_1194 c33_1195
            have hN8 := FN.more hN9_1190 hpk c28_1192 c29_1193 hsa hsd ht1 ht2
            exact ih.1 (k + 1) (E1 k) M1144 I1174 R1175 hR1176 hEI1197 hER1198 hi1180 hi1181 hi1182 hi1183 hi1184 hi1185 hF_1186 hY_1187 hP_1188 hK_1189 hN8 hQ8 (by omega) (fun h9 => (hm9.2.2.2 (by omega)).symm) (hm9.2.1) (by
                rw [← hs, flS_st (i := k) (by omega), ← hpk, fh_n hpk h19 h20 h21 (by rw [← hd9, show k - j = 0 by omega]; rfl), q350_s])
        · have c_281 : ¬ ((nI (f0 + k)) ≤ (nI (f0 + j))) := of_decide_eq_false c_281
          have n_281 : ¬ (f0 + k ≤ f0 + j) := fun h9 => c_281 ((le_nI (p := f0 + k) (n := f0 + j) (by omega) (by omega)).mpr h9)
          obtain ⟨a9, d9, g1, g2, g3, g4, g5, g6⟩ := hN91 j (by omega)
          have g7 := g3.1
          have g8 := g4.1
          have g0 := hsa.1
          have g9 := hsd.1
          have sm1 := sm_sym (k := by2 f (B.getD j 0 + 2)) (m := by2 f (p + 2)) hY1 g3 hsa g5 ht1
          have sm2 := sm_sym (k := by2 f (B.getD j 0 + 4)) (m := by2 f (p + 4)) hY1 g4 hsd g6 ht2
          refine ps_st (S' := (285, [(0, .ref m0), (1, .int (nI p)), (2, .int (nI (by2 f pF))), (3, .int (nI f0)), (4, .int (nI k)), (6, .int (nI (f0 + k))), (7, .int (nI (f0 + j)))], [.ref m0], M1)) rfl rfl rfl ?_
          refine pr_ref (j := 28) (S' := (288, [(0, .ref m0), (1, .int (nI p)), (2, .int (nI (by2 f pF))), (3, .int (nI f0)), (4, .int (nI k)), (6, .int (nI (f0 + k))), (7, .int (nI (f0 + j)))], [.ref (q 28)], M1)) rfl hR1 rfl rfl ?_
          refine ps_st (S' := (290, [(0, .ref m0), (1, .int (nI p)), (2, .int (nI (by2 f pF))), (3, .int (nI f0)), (4, .int (nI k)), (6, .int (nI (f0 + k))), (7, .int (nI (f0 + j)))], [.int (nI (f0 + j)), .ref (q 28)], M1)) rfl rfl rfl ?_
          refine pr_ld (a := 28) (j := f0 + j) (y := (nI a9)) (S' := (291, [(0, .ref m0), (1, .int (nI p)), (2, .int (nI (by2 f pF))), (3, .int (nI f0)), (4, .int (nI k)), (6, .int (nI (f0 + k))), (7, .int (nI (f0 + j)))], [.int (nI a9)], M1)) rfl hR1 rfl (by omega) (fun _ => g1) rfl (fun i1_290 => ?_)
          refine ps_st (S' := (292, [(0, .ref m0), (1, .int (nI p)), (2, .int (nI (by2 f pF))), (3, .int (nI f0)), (4, .int (nI k)), (6, .int (nI (f0 + k))), (7, .int (nI (f0 + j)))], [.ref m0, .int (nI a9)], M1)) rfl rfl rfl ?_
          refine pr_ref (j := 28) (S' := (295, [(0, .ref m0), (1, .int (nI p)), (2, .int (nI (by2 f pF))), (3, .int (nI f0)), (4, .int (nI k)), (6, .int (nI (f0 + k))), (7, .int (nI (f0 + j)))], [.ref (q 28), .int (nI a9)], M1)) rfl hR1 rfl rfl ?_
          refine ps_st (S' := (297, [(0, .ref m0), (1, .int (nI p)), (2, .int (nI (by2 f pF))), (3, .int (nI f0)), (4, .int (nI k)), (6, .int (nI (f0 + k))), (7, .int (nI (f0 + j)))], [.int (nI (f0 + k)), .ref (q 28), .int (nI a9)], M1)) rfl rfl rfl ?_
          refine pr_ld (a := 28) (j := f0 + k) (y := (nI a)) (S' := (298, [(0, .ref m0), (1, .int (nI p)), (2, .int (nI (by2 f pF))), (3, .int (nI f0)), (4, .int (nI k)), (6, .int (nI (f0 + k))), (7, .int (nI (f0 + j)))], [.int (nI a), .int (nI a9)], M1)) rfl hR1 rfl (by omega) (fun _ => c281) rfl (fun i1_297 => ?_)
          refine ps_if2 (S1 := (326, [(0, .ref m0), (1, .int (nI p)), (2, .int (nI (by2 f pF))), (3, .int (nI f0)), (4, .int (nI k)), (6, .int (nI (f0 + k))), (7, .int (nI (f0 + j)))], [], M1)) (S2 := (301, [(0, .ref m0), (1, .int (nI p)), (2, .int (nI (by2 f pF))), (3, .int (nI f0)), (4, .int (nI k)), (6, .int (nI (f0 + k))), (7, .int (nI (f0 + j)))], [], M1)) rfl rfl rfl (fun c_298 => ?_) (fun c_298 => ?_)
          · have c_298 : ¬ (nI a9) = (nI a) := of_decide_eq_true c_298
            have n_298 : ¬ (a9 = a) := fun h9 => c_298 ((eq_nI (p := a9) (n := a) (by omega) (by omega)).mpr h9)
            refine ps_st (S' := (329, [(7, .int ((nI (f0 + j)) + 1)), (0, .ref m0), (1, .int (nI p)), (2, .int (nI (by2 f pF))), (3, .int (nI f0)), (4, .int (nI k)), (6, .int (nI (f0 + k)))], [], M1)) rfl rfl rfl ?_
            rw [nI_add1 (p := f0 + j) (k := 1) (x := 1) rfl (by omega)]
            show pl _ _ _ (_, [(7, .int (nI (f0 + j + 1))), (0, .ref m0), (1, .int (nI p)), (2, .int (nI (by2 f pF))), (3, .int (nI f0)), (4, .int (nI k)), (6, .int (nI (f0 + k)))], [], M1) _
            refine ps_st (S' := (277, [(0, .ref m0), (1, .int (nI p)), (2, .int (nI (by2 f pF))), (3, .int (nI f0)), (4, .int (nI k)), (6, .int (nI (f0 + k))), (7, .int (nI (f0 + j + 1)))], [], M1)) rfl rfl rfl ?_
            exact ih.2 (k) (p) (j + 1) (a) (d) M1 I1 R1 hR1 hEI1 hER1 hl51 hl52 hl53 hl58 hl55 hl25 hF1 hY1 hP1 hK1 hN91 c271 c281 c291 hQ1 c301 c311 c321 c331 (hk0) (hpk) (hpe) (hs) (by omega) (hx) (hsa) (hsd) (ht1) (ht2) (h19) (h20) (h21) (by
                rw [← hd9, smeS_st (i := j) (by omega), if_neg (by omega)])
          · have c_298 : ¬ (¬ (nI a9) = (nI a)) := of_decide_eq_false c_298
            have n_298 : a9 = a := (eq_nI (p := a9) (n := a) (by omega) (by omega)).mp (Decidable.not_not.mp c_298)
            refine ps_st (S' := (302, [(0, .ref m0), (1, .int (nI p)), (2, .int (nI (by2 f pF))), (3, .int (nI f0)), (4, .int (nI k)), (6, .int (nI (f0 + k))), (7, .int (nI (f0 + j)))], [.ref m0], M1)) rfl rfl rfl ?_
            refine pr_ref (j := 29) (S' := (305, [(0, .ref m0), (1, .int (nI p)), (2, .int (nI (by2 f pF))), (3, .int (nI f0)), (4, .int (nI k)), (6, .int (nI (f0 + k))), (7, .int (nI (f0 + j)))], [.ref (q 29)], M1)) rfl hR1 rfl rfl ?_
            refine ps_st (S' := (307, [(0, .ref m0), (1, .int (nI p)), (2, .int (nI (by2 f pF))), (3, .int (nI f0)), (4, .int (nI k)), (6, .int (nI (f0 + k))), (7, .int (nI (f0 + j)))], [.int (nI (f0 + j)), .ref (q 29)], M1)) rfl rfl rfl ?_
            refine pr_ld (a := 29) (j := f0 + j) (y := (nI d9)) (S' := (308, [(0, .ref m0), (1, .int (nI p)), (2, .int (nI (by2 f pF))), (3, .int (nI f0)), (4, .int (nI k)), (6, .int (nI (f0 + k))), (7, .int (nI (f0 + j)))], [.int (nI d9)], M1)) rfl hR1 rfl (by omega) (fun _ => g2) rfl (fun i1_307 => ?_)
            refine ps_st (S' := (309, [(0, .ref m0), (1, .int (nI p)), (2, .int (nI (by2 f pF))), (3, .int (nI f0)), (4, .int (nI k)), (6, .int (nI (f0 + k))), (7, .int (nI (f0 + j)))], [.ref m0, .int (nI d9)], M1)) rfl rfl rfl ?_
            refine pr_ref (j := 29) (S' := (312, [(0, .ref m0), (1, .int (nI p)), (2, .int (nI (by2 f pF))), (3, .int (nI f0)), (4, .int (nI k)), (6, .int (nI (f0 + k))), (7, .int (nI (f0 + j)))], [.ref (q 29), .int (nI d9)], M1)) rfl hR1 rfl rfl ?_
            refine ps_st (S' := (314, [(0, .ref m0), (1, .int (nI p)), (2, .int (nI (by2 f pF))), (3, .int (nI f0)), (4, .int (nI k)), (6, .int (nI (f0 + k))), (7, .int (nI (f0 + j)))], [.int (nI (f0 + k)), .ref (q 29), .int (nI d9)], M1)) rfl rfl rfl ?_
            refine pr_ld (a := 29) (j := f0 + k) (y := (nI d)) (S' := (315, [(0, .ref m0), (1, .int (nI p)), (2, .int (nI (by2 f pF))), (3, .int (nI f0)), (4, .int (nI k)), (6, .int (nI (f0 + k))), (7, .int (nI (f0 + j)))], [.int (nI d), .int (nI d9)], M1)) rfl hR1 rfl (by omega) (fun _ => c291) rfl (fun i1_314 => ?_)
            refine ps_if2 (S1 := (326, [(0, .ref m0), (1, .int (nI p)), (2, .int (nI (by2 f pF))), (3, .int (nI f0)), (4, .int (nI k)), (6, .int (nI (f0 + k))), (7, .int (nI (f0 + j)))], [], M1)) (S2 := (318, [(0, .ref m0), (1, .int (nI p)), (2, .int (nI (by2 f pF))), (3, .int (nI f0)), (4, .int (nI k)), (6, .int (nI (f0 + k))), (7, .int (nI (f0 + j)))], [], M1)) rfl rfl rfl (fun c_315 => ?_) (fun c_315 => ?_)
            · have c_315 : ¬ (nI d9) = (nI d) := of_decide_eq_true c_315
              have n_315 : ¬ (d9 = d) := fun h9 => c_315 ((eq_nI (p := d9) (n := d) (by omega) (by omega)).mpr h9)
              refine ps_st (S' := (329, [(7, .int ((nI (f0 + j)) + 1)), (0, .ref m0), (1, .int (nI p)), (2, .int (nI (by2 f pF))), (3, .int (nI f0)), (4, .int (nI k)), (6, .int (nI (f0 + k)))], [], M1)) rfl rfl rfl ?_
              rw [nI_add1 (p := f0 + j) (k := 1) (x := 1) rfl (by omega)]
              show pl _ _ _ (_, [(7, .int (nI (f0 + j + 1))), (0, .ref m0), (1, .int (nI p)), (2, .int (nI (by2 f pF))), (3, .int (nI f0)), (4, .int (nI k)), (6, .int (nI (f0 + k)))], [], M1) _
              refine ps_st (S' := (277, [(0, .ref m0), (1, .int (nI p)), (2, .int (nI (by2 f pF))), (3, .int (nI f0)), (4, .int (nI k)), (6, .int (nI (f0 + k))), (7, .int (nI (f0 + j + 1)))], [], M1)) rfl rfl rfl ?_
              exact ih.2 (k) (p) (j + 1) (a) (d) M1 I1 R1 hR1 hEI1 hER1 hl51 hl52 hl53 hl58 hl55 hl25 hF1 hY1 hP1 hK1 hN91 c271 c281 c291 hQ1 c301 c311 c321 c331 (hk0) (hpk) (hpe) (hs) (by omega) (hx) (hsa) (hsd) (ht1) (ht2) (h19) (h20) (h21) (by
                  rw [← hd9, smeS_st (i := j) (by omega), if_neg (by omega)])
            · have c_315 : ¬ (¬ (nI d9) = (nI d)) := of_decide_eq_false c_315
              have n_315 : d9 = d := (eq_nI (p := d9) (n := d) (by omega) (by omega)).mp (Decidable.not_not.mp c_315)
              refine ps_st (S' := (319, [(0, .ref m0), (1, .int (nI p)), (2, .int (nI (by2 f pF))), (3, .int (nI f0)), (4, .int (nI k)), (6, .int (nI (f0 + k))), (7, .int (nI (f0 + j)))], [.ref m0], M1)) rfl rfl rfl ?_
              refine ps_st (S' := (321, [(0, .ref m0), (1, .int (nI p)), (2, .int (nI (by2 f pF))), (3, .int (nI f0)), (4, .int (nI k)), (6, .int (nI (f0 + k))), (7, .int (nI (f0 + j)))], [.int 22, .ref m0], M1)) rfl rfl rfl ?_
              refine ps_st (S' := (322, [(0, .ref m0), (1, .int (nI p)), (2, .int (nI (by2 f pF))), (3, .int (nI f0)), (4, .int (nI k)), (6, .int (nI (f0 + k))), (7, .int (nI (f0 + j)))], [.int (nI p), .int 22, .ref m0], M1)) rfl rfl rfl ?_
              refine pl_call (a := [.ref m0, .int 22, .int (nI p)]) (rest := []) rfl rfl rfl (rd_wrong (x1 := 22) (x2 := (nI p)) hR1) (fun v1199 M1200 q1201 => ?_)
              obtain ⟨I1202, R1203, rfl, hR1204, hI1205, hX1206, hi1207, hi1208⟩ := q1201
              have hi1209 := (hI1205 51 (by decide)).trans hl51
              have hi1210 := (hI1205 52 (by decide)).trans hl52
              have hi1211 := (hI1205 53 (by decide)).trans hl53
              have hi1212 := (hI1205 58 (by decide)).trans hl58
              have hi1213 := (hI1205 55 (by decide)).trans hl55
              have hi1214 := (hI1205 25 (by decide)).trans hl25
              have hF_1215 := hF1.mono (cIx hI1205 (by decide)) (cRx hX1206 (by decide))
              have hY_1216 := hY1.mono (cIx hI1205 (by decide)) (cRx hX1206 (by decide))
              have hP_1217 := hP1.mono (cIx hI1205 (by decide)) (cRx hX1206 (by decide))
              have hK_1218 := hK1.mono (cIx hI1205 (by decide)) (cRx hX1206 (by decide))
              have hN9_1219 := hN91.mono (cIx hI1205 (by decide)) (cRx hX1206 (by decide))
              have c27_1220 := c271.mono (cIx hI1205 (by decide)) (cRx hX1206 (by decide))
              have c28_1221 := c281.mono (cIx hI1205 (by decide)) (cRx hX1206 (by decide))
              have c29_1222 := c291.mono (cIx hI1205 (by decide)) (cRx hX1206 (by decide))
              have hQ_1223 := hQ1.mono (cIx hI1205 (by decide)) (cRx hX1206 (by decide))
              have c30_1224 := c301.mono (cIx hI1205 (by decide)) (cRx hX1206 (by decide))
              have c31_1225 := c311.mono (cIx hI1205 (by decide)) (cRx hX1206 (by decide))
              have c32_1226 := c321.mono (cIx hI1205 (by decide)) (cRx hX1206 (by decide))
              have c33_1227 := c331.mono (cIx hI1205 (by decide)) (cRx hX1206 (by decide))
              have hEI1228 := hEI1.tr hI1205 (by decide)
              have hER1229 := hER1.tr hX1206 (by decide)
              show pl _ _ _ (325, [(0, .ref m0), (1, .int (nI p)), (2, .int (nI (by2 f pF))), (3, .int (nI f0)), (4, .int (nI k)), (6, .int (nI (f0 + k))), (7, .int (nI (f0 + j)))], [.int 0], M1200) _
              exact ps_ret rfl rfl (Or.inr ⟨(22, p), I1202, R1203, by
                  rw [← hs, flS_st (i := k) (by omega), ← hpk, fh_22 hpk h19 h20 h21 (by rw [← hd9, smeS_st (i := j) (by omega), if_pos (by omega)]; exact fun h9 => by cases h9)], rfl, hR1204, hEI1228, hER1229, hi1207, hi1208⟩)
  refine ps_st (S' := (1, [(0, .ref m0)], [.ref m0], M)) rfl rfl rfl ?_
  refine pr_int (j := 55) (S' := (4, [(0, .ref m0)], [.int (nI pF)], M)) rfl hR rfl hi55 rfl ?_
  refine ps_st (S' := (5, [(1, .int (nI pF)), (0, .ref m0)], [], M)) rfl rfl rfl ?_
  refine ps_st (S' := (6, [(1, .int (nI pF)), (0, .ref m0)], [.ref m0], M)) rfl rfl rfl ?_
  refine ps_st (S' := (7, [(1, .int (nI pF)), (0, .ref m0)], [.int (nI pF), .ref m0], M)) rfl rfl rfl ?_
  refine pl_call (a := [.ref m0, .int (nI pF)]) (rest := []) rfl rfl rfl (rd_u2 (n := n) (f := f) (p := pF) hR hF (by omega)) (fun v1230 M1231 q1232 => ?_)
  obtain ⟨rfl, rfl⟩ := q1232
  show pl _ _ _ (10, [(1, .int (nI pF)), (0, .ref m0)], [.int (nI (by2 f pF))], M) _
  have hu_7 := by2_lt f pF
  refine ps_st (S' := (11, [(2, .int (nI (by2 f pF))), (1, .int (nI pF)), (0, .ref m0)], [], M)) rfl rfl rfl ?_
  refine ps_st (S' := (14, [(1, .int ((nI pF) + 2)), (2, .int (nI (by2 f pF))), (0, .ref m0)], [], M)) rfl rfl rfl ?_
  rw [nI_add1 (p := pF) (k := 2) (x := 2) rfl (by omega)]
  show pl _ _ _ (_, [(1, .int (nI (pF + 2))), (2, .int (nI (by2 f pF))), (0, .ref m0)], [], M) _
  refine ps_st (S' := (15, [(1, .int (nI (pF + 2))), (2, .int (nI (by2 f pF))), (0, .ref m0)], [.ref m0], M)) rfl rfl rfl ?_
  refine pr_int (j := 25) (S' := (18, [(1, .int (nI (pF + 2))), (2, .int (nI (by2 f pF))), (0, .ref m0)], [.int (nI f0)], M)) rfl hR rfl hi25 rfl ?_
  refine ps_st (S' := (19, [(3, .int (nI f0)), (1, .int (nI (pF + 2))), (2, .int (nI (by2 f pF))), (0, .ref m0)], [], M)) rfl rfl rfl ?_
  refine ps_st (S' := (20, [(3, .int (nI f0)), (1, .int (nI (pF + 2))), (2, .int (nI (by2 f pF))), (0, .ref m0)], [.int 0], M)) rfl rfl rfl ?_
  refine ps_st (S' := (22, [(0, .ref m0), (1, .int (nI (pF + 2))), (2, .int (nI (by2 f pF))), (3, .int (nI f0)), (4, .int 0)], [], M)) rfl rfl rfl ?_
  exact (LL kf).1 (0) (pF + 2) M I R hR hEI hER hi51 hi52 hi53 hi58 hi55 hi25 hF hY hP hK hFN0 hFQ0 (by omega) (fun h9 => (hMB.2.2.1 (by omega)).symm) (by omega) (rfl)
set_option maxHeartbeats 8000000 in
theorem rd_code7 {g : xe_G} {m0 : Nat} {q : Nat → Nat} {z : Nat × Nat} {I : rI} {R : rR} {M : mi_H} {n : Nat} {f : Nat → Int32} {tx : List (List Nat)} {cN : Nat} {A : Nat → Nat} {N mj : Nat} {E : List (Nat × Nat)} {p e x w fl ds : Nat} {l : List Nat} {t : Int32} {K : Nat × Nat × Nat} {R0 : rR} (hR : RS g m0 q z I R M) (hi51 : I 51 = some 0) (hi52 : I 52 = some (nI N)) (hi53 : I 53 = some (nI mj)) (hF : FK n f I R) (hY : SYT tx cN A I R) (hP : RPV f n E tx N I R) (hK : KX I R) (hW : MW f x K R0 I R) (hEP : EP f n E) (hN : N < 65536) (hmj : mj < 65536) (he : p + 6 ≤ e ∧ e ≤ n) (hx : x < 8300) (hfl : R 34 x = some (nI fl)) (hds : R 36 x = some (nI ds)) (hdt : ds < tx.length ∧ tx.getD ds [] = l) (hmt : ¬ mthN l = 0) (hf6 : fl < 65536) (hw : w = argN l + (if aN fl 8 = 0 then 1 else 0)) (hp0 : ¬ p = 0) : pt (mT g) 196 [.ref m0, .int t, .int (nI (p + 6)), .int (nI e), .int (nI x)] M (fun v M' => (∃  (I' : rI) (R' : rR), (¬ s_cdE f e (p + 6) = some e) ∧ v = some (.int 30) ∧ RS g m0 q z I' R' M' ∧ eqI [47, 48] I I' ∧ eqR [37, 38, 39, 40, 41, 42] R R') ∨ (∃ (r : Nat) (I' : rI) (R' : rR), (s_cdE f e (p + 6) = some e) ∧ (cdS f n E mj w p 0 = .inl (r, p)) ∧ (41 ≤ r ∧ r ≤ 43) ∧ v = some (.int (nI r)) ∧ RS g m0 q z I' R' M' ∧ eqI [47, 48] I I' ∧ eqR [37, 38, 39, 40, 41, 42] R R') ∨ (∃ (e9 : Nat × Nat) (I' : rI) (R' : rR), (s_cdE f e (p + 6) = some e) ∧ (cdS f n E mj w p 0 = .inl e9) ∧ v = some (.int (-1)) ∧ RS g m0 q z I' R' M' ∧ eqI [47, 48] I I' ∧ eqR [37, 38, 39, 40, 41, 42] R R' ∧ I' 47 = some (nI e9.1) ∧ I' 48 = some (nI e9.2)) ∨ (∃ (s' : Nat) (I' : rI) (R' : rR), (s_cdE f e (p + 6) = some e) ∧ (cdS f n E mj w p 0 = .inr s') ∧ (R' 37 x = some (nI (p + 14))) ∧ v = some (.int 0) ∧ RS g m0 q z I' R' M' ∧ eqI [47, 48] I I' ∧ eqR [37, 38, 39, 40, 41, 42] R R' ∧ MW f x (K.1, p, K.2.2) R0 I' R')) := by
  refine pt_in (b := mb_196 g) rfl (fun kf => ?_)
  show pl (mT g) kf (mb_196 g).2 (0, [(0, .ref m0), (1, .int t), (2, .int (nI (p + 6))), (3, .int (nI e)), (4, .int (nI x))], [], M) _
  have hEI : eqI [47, 48] I I := eqI.rf
  have hER : eqR [37, 38, 39, 40, 41, 42] R R := eqR.rf
  have hn := hF.1
  have hwl : w < 2000 := by rw [hw]; have := argN_lt l; split <;> omega
  have LL : ∀ (kf : Nat), (∀ (i y : Nat) (M1 : mi_H) (I1 : rI) (R1 : rR), (RS g m0 q z I1 R1 M1) → (eqI [47, 48] I I1) → (eqR [37, 38, 39, 40, 41, 42] R R1) → (I1 51 = some 0) → (I1 52 = some (nI N)) → (I1 53 = some (nI mj)) → (FK n f I1 R1) → (SYT tx cN A I1 R1) → (RPV f n E tx N I1 R1) → (KX I1 R1) → (MW f x K R0 I1 R1) → ((R1 34 x = some (nI fl)) ∧ (R1 36 x = some (nI ds))) → (p + 14 + by4 f (p + 10) + 2 + 8 * by2 f (p + 14 + by4 f (p + 10)) + 2 ≤ e) → (i ≤ by2 f (p + 14 + by4 f (p + 10) + 2 + 8 * by2 f (p + 14 + by4 f (p + 10)))) → (y ≤ e) → (s_atE f e (by2 f (p + 14 + by4 f (p + 10) + 2 + 8 * by2 f (p + 14 + by4 f (p + 10))) - i) y = s_atE f e (by2 f (p + 14 + by4 f (p + 10) + 2 + 8 * by2 f (p + 14 + by4 f (p + 10)))) (p + 14 + by4 f (p + 10) + 2 + 8 * by2 f (p + 14 + by4 f (p + 10)) + 2)) →  pl (mT g) kf (mb_196 g).2 (110, [(0, .ref m0), (2, .int (nI (p + 6))), (3, .int (nI e)), (4, .int (nI x)), (5, .long (nL (by4 f (p + 10)))), (7, .int (nI y)), (8, .int (nI (by2 f (p + 14 + by4 f (p + 10))))), (9, .int (nI (p + 14 + by4 f (p + 10) + 2))), (10, .int (nI (p + 14 + by4 f (p + 10) + 2 + 8 * by2 f (p + 14 + by4 f (p + 10))))), (11, .int (nI (by2 f (p + 14 + by4 f (p + 10) + 2 + 8 * by2 f (p + 14 + by4 f (p + 10)))))), (12, .int (nI i))], [], M1) (fun v M' => (∃  (I' : rI) (R' : rR), (¬ s_cdE f e (p + 6) = some e) ∧ v = some (.int 30) ∧ RS g m0 q z I' R' M' ∧ eqI [47, 48] I I' ∧ eqR [37, 38, 39, 40, 41, 42] R R') ∨ (∃ (r : Nat) (I' : rI) (R' : rR), (s_cdE f e (p + 6) = some e) ∧ (cdS f n E mj w p 0 = .inl (r, p)) ∧ (41 ≤ r ∧ r ≤ 43) ∧ v = some (.int (nI r)) ∧ RS g m0 q z I' R' M' ∧ eqI [47, 48] I I' ∧ eqR [37, 38, 39, 40, 41, 42] R R') ∨ (∃ (e9 : Nat × Nat) (I' : rI) (R' : rR), (s_cdE f e (p + 6) = some e) ∧ (cdS f n E mj w p 0 = .inl e9) ∧ v = some (.int (-1)) ∧ RS g m0 q z I' R' M' ∧ eqI [47, 48] I I' ∧ eqR [37, 38, 39, 40, 41, 42] R R' ∧ I' 47 = some (nI e9.1) ∧ I' 48 = some (nI e9.2)) ∨ (∃ (s' : Nat) (I' : rI) (R' : rR), (s_cdE f e (p + 6) = some e) ∧ (cdS f n E mj w p 0 = .inr s') ∧ (R' 37 x = some (nI (p + 14))) ∧ v = some (.int 0) ∧ RS g m0 q z I' R' M' ∧ eqI [47, 48] I I' ∧ eqR [37, 38, 39, 40, 41, 42] R R' ∧ MW f x (K.1, p, K.2.2) R0 I' R'))) ∧ (∀ (i : Nat) (M1 : mi_H) (I1 : rI) (R1 : rR), (RS g m0 q z I1 R1 M1) → (eqI [47, 48] I I1) → (eqR [37, 38, 39, 40, 41, 42] R R1) → (I1 51 = some 0) → (I1 52 = some (nI N)) → (I1 53 = some (nI mj)) → (FK n f I1 R1) → (SYT tx cN A I1 R1) → (RPV f n E tx N I1 R1) → (KX I1 R1) → (MW f x K R0 I1 R1) → ((R1 34 x = some (nI fl)) ∧ (R1 36 x = some (nI ds))) → (p + 14 + by4 f (p + 10) + 2 + 8 * by2 f (p + 14 + by4 f (p + 10)) + 2 ≤ e) → (s_cdE f e (p + 6) = some e) → (¬ (by4 f (p + 10) < 1 ∨ 65535 < by4 f (p + 10))) → (¬ by2 f (p + 8) < w) → (i ≤ by2 f (p + 14 + by4 f (p + 10))) → (rwA f E (by4 f (p + 10)) (p + 14 + by4 f (p + 10) + 2) (by2 f (p + 14 + by4 f (p + 10)) - i) i = rwA f E (by4 f (p + 10)) (p + 14 + by4 f (p + 10) + 2) (by2 f (p + 14 + by4 f (p + 10))) 0) →  pl (mT g) kf (mb_196 g).2 (250, [(0, .ref m0), (2, .int (nI (p + 6))), (4, .int (nI x)), (5, .long (nL (by4 f (p + 10)))), (8, .int (nI (by2 f (p + 14 + by4 f (p + 10))))), (9, .int (nI (p + 14 + by4 f (p + 10) + 2))), (10, .int (nI (p + 14 + by4 f (p + 10) + 2 + 8 * by2 f (p + 14 + by4 f (p + 10))))), (13, .int (nI i))], [], M1) (fun v M' => (∃  (I' : rI) (R' : rR), (¬ s_cdE f e (p + 6) = some e) ∧ v = some (.int 30) ∧ RS g m0 q z I' R' M' ∧ eqI [47, 48] I I' ∧ eqR [37, 38, 39, 40, 41, 42] R R') ∨ (∃ (r : Nat) (I' : rI) (R' : rR), (s_cdE f e (p + 6) = some e) ∧ (cdS f n E mj w p 0 = .inl (r, p)) ∧ (41 ≤ r ∧ r ≤ 43) ∧ v = some (.int (nI r)) ∧ RS g m0 q z I' R' M' ∧ eqI [47, 48] I I' ∧ eqR [37, 38, 39, 40, 41, 42] R R') ∨ (∃ (e9 : Nat × Nat) (I' : rI) (R' : rR), (s_cdE f e (p + 6) = some e) ∧ (cdS f n E mj w p 0 = .inl e9) ∧ v = some (.int (-1)) ∧ RS g m0 q z I' R' M' ∧ eqI [47, 48] I I' ∧ eqR [37, 38, 39, 40, 41, 42] R R' ∧ I' 47 = some (nI e9.1) ∧ I' 48 = some (nI e9.2)) ∨ (∃ (s' : Nat) (I' : rI) (R' : rR), (s_cdE f e (p + 6) = some e) ∧ (cdS f n E mj w p 0 = .inr s') ∧ (R' 37 x = some (nI (p + 14))) ∧ v = some (.int 0) ∧ RS g m0 q z I' R' M' ∧ eqI [47, 48] I I' ∧ eqR [37, 38, 39, 40, 41, 42] R R' ∧ MW f x (K.1, p, K.2.2) R0 I' R'))) := by
    intro kf
    induction kf with
    | zero => exact ⟨by intros; exact pl_0, by intros; exact pl_0⟩
    | succ kf ih =>
      refine ⟨?_, ?_⟩
      · skip
        intro i y M1 I1 R1 hR1 hEI1 hER1 hl51 hl52 hl53 hF1 hY1 hP1 hK1 hW1 hr hb hi hy hg
        have hn := hF1.1
        have hu9 := by2_lt f (p + 14 + by4 f (p + 10))
        have hu8 := by2_lt f (p + 14 + by4 f (p + 10) + 2 + 8 * by2 f (p + 14 + by4 f (p + 10)))
        have htl := hY1.1.2.2.1
        refine ps_st1 (S' := (112, [(0, .ref m0), (2, .int (nI (p + 6))), (3, .int (nI e)), (4, .int (nI x)), (5, .long (nL (by4 f (p + 10)))), (7, .int (nI y)), (8, .int (nI (by2 f (p + 14 + by4 f (p + 10))))), (9, .int (nI (p + 14 + by4 f (p + 10) + 2))), (10, .int (nI (p + 14 + by4 f (p + 10) + 2 + 8 * by2 f (p + 14 + by4 f (p + 10))))), (11, .int (nI (by2 f (p + 14 + by4 f (p + 10) + 2 + 8 * by2 f (p + 14 + by4 f (p + 10)))))), (12, .int (nI i))], [.int (nI i)], M1)) rfl rfl rfl ?_
        refine ps_st (S' := (114, [(0, .ref m0), (2, .int (nI (p + 6))), (3, .int (nI e)), (4, .int (nI x)), (5, .long (nL (by4 f (p + 10)))), (7, .int (nI y)), (8, .int (nI (by2 f (p + 14 + by4 f (p + 10))))), (9, .int (nI (p + 14 + by4 f (p + 10) + 2))), (10, .int (nI (p + 14 + by4 f (p + 10) + 2 + 8 * by2 f (p + 14 + by4 f (p + 10))))), (11, .int (nI (by2 f (p + 14 + by4 f (p + 10) + 2 + 8 * by2 f (p + 14 + by4 f (p + 10)))))), (12, .int (nI i))], [.int (nI (by2 f (p + 14 + by4 f (p + 10) + 2 + 8 * by2 f (p + 14 + by4 f (p + 10))))), .int (nI i)], M1)) rfl rfl rfl ?_
        refine ps_if2 (S1 := (172, [(0, .ref m0), (2, .int (nI (p + 6))), (3, .int (nI e)), (4, .int (nI x)), (5, .long (nL (by4 f (p + 10)))), (7, .int (nI y)), (8, .int (nI (by2 f (p + 14 + by4 f (p + 10))))), (9, .int (nI (p + 14 + by4 f (p + 10) + 2))), (10, .int (nI (p + 14 + by4 f (p + 10) + 2 + 8 * by2 f (p + 14 + by4 f (p + 10))))), (11, .int (nI (by2 f (p + 14 + by4 f (p + 10) + 2 + 8 * by2 f (p + 14 + by4 f (p + 10)))))), (12, .int (nI i))], [], M1)) (S2 := (117, [(0, .ref m0), (2, .int (nI (p + 6))), (3, .int (nI e)), (4, .int (nI x)), (5, .long (nL (by4 f (p + 10)))), (7, .int (nI y)), (8, .int (nI (by2 f (p + 14 + by4 f (p + 10))))), (9, .int (nI (p + 14 + by4 f (p + 10) + 2))), (10, .int (nI (p + 14 + by4 f (p + 10) + 2 + 8 * by2 f (p + 14 + by4 f (p + 10))))), (11, .int (nI (by2 f (p + 14 + by4 f (p + 10) + 2 + 8 * by2 f (p + 14 + by4 f (p + 10)))))), (12, .int (nI i))], [], M1)) rfl rfl rfl (fun c_114 => ?_) (fun c_114 => ?_)
        · have c_114 : (nI (by2 f (p + 14 + by4 f (p + 10) + 2 + 8 * by2 f (p + 14 + by4 f (p + 10))))) ≤ (nI i) := of_decide_eq_true c_114
          have n_114 : by2 f (p + 14 + by4 f (p + 10) + 2 + 8 * by2 f (p + 14 + by4 f (p + 10))) ≤ i := (le_nI (p := by2 f (p + 14 + by4 f (p + 10) + 2 + 8 * by2 f (p + 14 + by4 f (p + 10)))) (n := i) (Nat.lt_trans (by2_lt _ _) (by decide)) (by omega)).mp c_114
          refine ps_st (S' := (174, [(0, .ref m0), (2, .int (nI (p + 6))), (3, .int (nI e)), (4, .int (nI x)), (5, .long (nL (by4 f (p + 10)))), (7, .int (nI y)), (8, .int (nI (by2 f (p + 14 + by4 f (p + 10))))), (9, .int (nI (p + 14 + by4 f (p + 10) + 2))), (10, .int (nI (p + 14 + by4 f (p + 10) + 2 + 8 * by2 f (p + 14 + by4 f (p + 10))))), (11, .int (nI (by2 f (p + 14 + by4 f (p + 10) + 2 + 8 * by2 f (p + 14 + by4 f (p + 10)))))), (12, .int (nI i))], [.int (nI y)], M1)) rfl rfl rfl ?_
          refine ps_st (S' := (175, [(0, .ref m0), (2, .int (nI (p + 6))), (3, .int (nI e)), (4, .int (nI x)), (5, .long (nL (by4 f (p + 10)))), (7, .int (nI y)), (8, .int (nI (by2 f (p + 14 + by4 f (p + 10))))), (9, .int (nI (p + 14 + by4 f (p + 10) + 2))), (10, .int (nI (p + 14 + by4 f (p + 10) + 2 + 8 * by2 f (p + 14 + by4 f (p + 10))))), (11, .int (nI (by2 f (p + 14 + by4 f (p + 10) + 2 + 8 * by2 f (p + 14 + by4 f (p + 10)))))), (12, .int (nI i))], [.int (nI e), .int (nI y)], M1)) rfl rfl rfl ?_
          refine ps_if2 (S1 := (181, [(0, .ref m0), (2, .int (nI (p + 6))), (3, .int (nI e)), (4, .int (nI x)), (5, .long (nL (by4 f (p + 10)))), (7, .int (nI y)), (8, .int (nI (by2 f (p + 14 + by4 f (p + 10))))), (9, .int (nI (p + 14 + by4 f (p + 10) + 2))), (10, .int (nI (p + 14 + by4 f (p + 10) + 2 + 8 * by2 f (p + 14 + by4 f (p + 10))))), (11, .int (nI (by2 f (p + 14 + by4 f (p + 10) + 2 + 8 * by2 f (p + 14 + by4 f (p + 10)))))), (12, .int (nI i))], [], M1)) (S2 := (178, [(0, .ref m0), (2, .int (nI (p + 6))), (3, .int (nI e)), (4, .int (nI x)), (5, .long (nL (by4 f (p + 10)))), (7, .int (nI y)), (8, .int (nI (by2 f (p + 14 + by4 f (p + 10))))), (9, .int (nI (p + 14 + by4 f (p + 10) + 2))), (10, .int (nI (p + 14 + by4 f (p + 10) + 2 + 8 * by2 f (p + 14 + by4 f (p + 10))))), (11, .int (nI (by2 f (p + 14 + by4 f (p + 10) + 2 + 8 * by2 f (p + 14 + by4 f (p + 10)))))), (12, .int (nI i))], [], M1)) rfl rfl rfl (fun c_175 => ?_) (fun c_175 => ?_)
          · have c_175 : (nI y) = (nI e) := of_decide_eq_true c_175
            have n_175 : y = e := (eq_nI (p := y) (n := e) (by omega) (by omega)).mp c_175
            have hce : s_cdE f e (p + 6) = some e := by
              rw [cdE_of, if_neg (by omega), if_neg (by omega), if_neg (by omega), ← hg, show by2 f (p + 14 + by4 f (p + 10) + 2 + 8 * by2 f (p + 14 + by4 f (p + 10))) - i = 0 by omega, show y = e by omega]
              rfl
            refine ps_st (S' := (183, [(0, .ref m0), (2, .int (nI (p + 6))), (3, .int (nI e)), (4, .int (nI x)), (5, .long (nL (by4 f (p + 10)))), (7, .int (nI y)), (8, .int (nI (by2 f (p + 14 + by4 f (p + 10))))), (9, .int (nI (p + 14 + by4 f (p + 10) + 2))), (10, .int (nI (p + 14 + by4 f (p + 10) + 2 + 8 * by2 f (p + 14 + by4 f (p + 10))))), (11, .int (nI (by2 f (p + 14 + by4 f (p + 10) + 2 + 8 * by2 f (p + 14 + by4 f (p + 10)))))), (12, .int (nI i))], [.long (nL (by4 f (p + 10)))], M1)) rfl rfl rfl ?_
            refine ps_st (S' := (184, [(0, .ref m0), (2, .int (nI (p + 6))), (3, .int (nI e)), (4, .int (nI x)), (5, .long (nL (by4 f (p + 10)))), (7, .int (nI y)), (8, .int (nI (by2 f (p + 14 + by4 f (p + 10))))), (9, .int (nI (p + 14 + by4 f (p + 10) + 2))), (10, .int (nI (p + 14 + by4 f (p + 10) + 2 + 8 * by2 f (p + 14 + by4 f (p + 10))))), (11, .int (nI (by2 f (p + 14 + by4 f (p + 10) + 2 + 8 * by2 f (p + 14 + by4 f (p + 10)))))), (12, .int (nI i))], [.long 0, .long (nL (by4 f (p + 10)))], M1)) rfl rfl rfl ?_
            refine ps_st (S' := (185, [(0, .ref m0), (2, .int (nI (p + 6))), (3, .int (nI e)), (4, .int (nI x)), (5, .long (nL (by4 f (p + 10)))), (7, .int (nI y)), (8, .int (nI (by2 f (p + 14 + by4 f (p + 10))))), (9, .int (nI (p + 14 + by4 f (p + 10) + 2))), (10, .int (nI (p + 14 + by4 f (p + 10) + 2 + 8 * by2 f (p + 14 + by4 f (p + 10))))), (11, .int (nI (by2 f (p + 14 + by4 f (p + 10) + 2 + 8 * by2 f (p + 14 + by4 f (p + 10)))))), (12, .int (nI i))], [.int (lg_cmp (nL (by4 f (p + 10))) 0)], M1)) rfl rfl rfl ?_
            refine ps_if (S1 := (197, [], [], M1)) (S2 := (188, [(0, .ref m0), (2, .int (nI (p + 6))), (3, .int (nI e)), (4, .int (nI x)), (5, .long (nL (by4 f (p + 10)))), (7, .int (nI y)), (8, .int (nI (by2 f (p + 14 + by4 f (p + 10))))), (9, .int (nI (p + 14 + by4 f (p + 10) + 2))), (10, .int (nI (p + 14 + by4 f (p + 10) + 2 + 8 * by2 f (p + 14 + by4 f (p + 10))))), (11, .int (nI (by2 f (p + 14 + by4 f (p + 10) + 2 + 8 * by2 f (p + 14 + by4 f (p + 10)))))), (12, .int (nI i))], [], M1)) rfl rfl rfl (fun c_185 => ?_) (fun c_185 => ?_)
            · have n_185 : by4 f (p + 10) = 0 := (cL_eq (p := by4 f (p + 10)) (k := 0) (x := (nL (by4 f (p + 10)))) (y := 0) rfl rfl (by omega) (by omega)).mp (of_decide_eq_true c_185)
              refine ps_st (S' := (199, [], [.int 41], M1)) rfl rfl rfl ?_
              exact ps_ret rfl rfl (Or.inr (Or.inl ⟨41, I1, R1, hce, by
                  unfold cdS
                  rw [if_pos (by omega)], by decide, rfl, hR1, hEI1, hER1⟩))
            · have n_185 : ¬ (by4 f (p + 10) = 0) := fun h9 => of_decide_eq_false c_185 ((cL_eq (p := by4 f (p + 10)) (k := 0) (x := (nL (by4 f (p + 10)))) (y := 0) rfl rfl (by omega) (by omega)).mpr h9)
              refine ps_st (S' := (190, [(0, .ref m0), (2, .int (nI (p + 6))), (3, .int (nI e)), (4, .int (nI x)), (5, .long (nL (by4 f (p + 10)))), (7, .int (nI y)), (8, .int (nI (by2 f (p + 14 + by4 f (p + 10))))), (9, .int (nI (p + 14 + by4 f (p + 10) + 2))), (10, .int (nI (p + 14 + by4 f (p + 10) + 2 + 8 * by2 f (p + 14 + by4 f (p + 10))))), (11, .int (nI (by2 f (p + 14 + by4 f (p + 10) + 2 + 8 * by2 f (p + 14 + by4 f (p + 10)))))), (12, .int (nI i))], [.long (nL (by4 f (p + 10)))], M1)) rfl rfl rfl ?_
              refine ps_st (S' := (193, [(0, .ref m0), (2, .int (nI (p + 6))), (3, .int (nI e)), (4, .int (nI x)), (5, .long (nL (by4 f (p + 10)))), (7, .int (nI y)), (8, .int (nI (by2 f (p + 14 + by4 f (p + 10))))), (9, .int (nI (p + 14 + by4 f (p + 10) + 2))), (10, .int (nI (p + 14 + by4 f (p + 10) + 2 + 8 * by2 f (p + 14 + by4 f (p + 10))))), (11, .int (nI (by2 f (p + 14 + by4 f (p + 10) + 2 + 8 * by2 f (p + 14 + by4 f (p + 10)))))), (12, .int (nI i))], [.long 65535, .long (nL (by4 f (p + 10)))], M1)) rfl rfl rfl ?_
              refine ps_st (S' := (194, [(0, .ref m0), (2, .int (nI (p + 6))), (3, .int (nI e)), (4, .int (nI x)), (5, .long (nL (by4 f (p + 10)))), (7, .int (nI y)), (8, .int (nI (by2 f (p + 14 + by4 f (p + 10))))), (9, .int (nI (p + 14 + by4 f (p + 10) + 2))), (10, .int (nI (p + 14 + by4 f (p + 10) + 2 + 8 * by2 f (p + 14 + by4 f (p + 10))))), (11, .int (nI (by2 f (p + 14 + by4 f (p + 10) + 2 + 8 * by2 f (p + 14 + by4 f (p + 10)))))), (12, .int (nI i))], [.int (lg_cmp (nL (by4 f (p + 10))) 65535)], M1)) rfl rfl rfl ?_
              refine ps_if (S1 := (200, [(0, .ref m0), (2, .int (nI (p + 6))), (3, .int (nI e)), (4, .int (nI x)), (5, .long (nL (by4 f (p + 10)))), (7, .int (nI y)), (8, .int (nI (by2 f (p + 14 + by4 f (p + 10))))), (9, .int (nI (p + 14 + by4 f (p + 10) + 2))), (10, .int (nI (p + 14 + by4 f (p + 10) + 2 + 8 * by2 f (p + 14 + by4 f (p + 10))))), (11, .int (nI (by2 f (p + 14 + by4 f (p + 10) + 2 + 8 * by2 f (p + 14 + by4 f (p + 10)))))), (12, .int (nI i))], [], M1)) (S2 := (197, [], [], M1)) rfl rfl rfl (fun c_194 => ?_) (fun c_194 => ?_)
              · have n_194 : by4 f (p + 10) ≤ 65535 := (cL_le (p := by4 f (p + 10)) (k := 65535) (x := (nL (by4 f (p + 10)))) (y := 65535) rfl rfl (by omega) (by omega)).mp (of_decide_eq_true c_194)
                refine ps_st (S' := (201, [(0, .ref m0), (2, .int (nI (p + 6))), (3, .int (nI e)), (4, .int (nI x)), (5, .long (nL (by4 f (p + 10)))), (7, .int (nI y)), (8, .int (nI (by2 f (p + 14 + by4 f (p + 10))))), (9, .int (nI (p + 14 + by4 f (p + 10) + 2))), (10, .int (nI (p + 14 + by4 f (p + 10) + 2 + 8 * by2 f (p + 14 + by4 f (p + 10))))), (11, .int (nI (by2 f (p + 14 + by4 f (p + 10) + 2 + 8 * by2 f (p + 14 + by4 f (p + 10)))))), (12, .int (nI i))], [.ref m0], M1)) rfl rfl rfl ?_
                refine ps_st (S' := (202, [(0, .ref m0), (2, .int (nI (p + 6))), (3, .int (nI e)), (4, .int (nI x)), (5, .long (nL (by4 f (p + 10)))), (7, .int (nI y)), (8, .int (nI (by2 f (p + 14 + by4 f (p + 10))))), (9, .int (nI (p + 14 + by4 f (p + 10) + 2))), (10, .int (nI (p + 14 + by4 f (p + 10) + 2 + 8 * by2 f (p + 14 + by4 f (p + 10))))), (11, .int (nI (by2 f (p + 14 + by4 f (p + 10) + 2 + 8 * by2 f (p + 14 + by4 f (p + 10)))))), (12, .int (nI i))], [.ref m0, .ref m0], M1)) rfl rfl rfl ?_
                refine pr_ref (j := 36) (S' := (205, [(0, .ref m0), (2, .int (nI (p + 6))), (3, .int (nI e)), (4, .int (nI x)), (5, .long (nL (by4 f (p + 10)))), (7, .int (nI y)), (8, .int (nI (by2 f (p + 14 + by4 f (p + 10))))), (9, .int (nI (p + 14 + by4 f (p + 10) + 2))), (10, .int (nI (p + 14 + by4 f (p + 10) + 2 + 8 * by2 f (p + 14 + by4 f (p + 10))))), (11, .int (nI (by2 f (p + 14 + by4 f (p + 10) + 2 + 8 * by2 f (p + 14 + by4 f (p + 10)))))), (12, .int (nI i))], [.ref (q 36), .ref m0], M1)) rfl hR1 rfl rfl ?_
                refine ps_st (S' := (207, [(0, .ref m0), (2, .int (nI (p + 6))), (3, .int (nI e)), (4, .int (nI x)), (5, .long (nL (by4 f (p + 10)))), (7, .int (nI y)), (8, .int (nI (by2 f (p + 14 + by4 f (p + 10))))), (9, .int (nI (p + 14 + by4 f (p + 10) + 2))), (10, .int (nI (p + 14 + by4 f (p + 10) + 2 + 8 * by2 f (p + 14 + by4 f (p + 10))))), (11, .int (nI (by2 f (p + 14 + by4 f (p + 10) + 2 + 8 * by2 f (p + 14 + by4 f (p + 10)))))), (12, .int (nI i))], [.int (nI x), .ref (q 36), .ref m0], M1)) rfl rfl rfl ?_
                refine pr_ld (a := 36) (j := x) (y := (nI ds)) (S' := (208, [(0, .ref m0), (2, .int (nI (p + 6))), (3, .int (nI e)), (4, .int (nI x)), (5, .long (nL (by4 f (p + 10)))), (7, .int (nI y)), (8, .int (nI (by2 f (p + 14 + by4 f (p + 10))))), (9, .int (nI (p + 14 + by4 f (p + 10) + 2))), (10, .int (nI (p + 14 + by4 f (p + 10) + 2 + 8 * by2 f (p + 14 + by4 f (p + 10))))), (11, .int (nI (by2 f (p + 14 + by4 f (p + 10) + 2 + 8 * by2 f (p + 14 + by4 f (p + 10)))))), (12, .int (nI i))], [.int (nI ds), .ref m0], M1)) rfl hR1 rfl (by omega) (fun _ => hr.2) rfl (fun i1_207 => ?_)
                obtain ⟨-, -, k_208, W_208, hq1_208, hq2_208, hq3_208, hq4_208, hq5_208, hq6_208, -⟩ := mth_in (l := l) (by omega)
                refine pl_call (a := [.ref m0, .int (nI ds)]) (rest := []) rfl rfl rfl (rd_places0 (tx := tx) (cN := cN) (A := A) (s := ds) (l := l) (k0 := k_208) (W := W_208) hR1 hY1 (hdt) (hq1_208) (⟨by omega, hq5_208⟩)) (fun v1 M2 q3 => ?_)
                obtain ⟨rfl, rfl⟩ := q3
                show pl _ _ _ (211, [(0, .ref m0), (2, .int (nI (p + 6))), (3, .int (nI e)), (4, .int (nI x)), (5, .long (nL (by4 f (p + 10)))), (7, .int (nI y)), (8, .int (nI (by2 f (p + 14 + by4 f (p + 10))))), (9, .int (nI (p + 14 + by4 f (p + 10) + 2))), (10, .int (nI (p + 14 + by4 f (p + 10) + 2 + 8 * by2 f (p + 14 + by4 f (p + 10))))), (11, .int (nI (by2 f (p + 14 + by4 f (p + 10) + 2 + 8 * by2 f (p + 14 + by4 f (p + 10)))))), (12, .int (nI i))], [.int (nI (W_208))], M1) _
                rw [← hq6_208]
                show pl _ _ _ (_, [(0, .ref m0), (2, .int (nI (p + 6))), (3, .int (nI e)), (4, .int (nI x)), (5, .long (nL (by4 f (p + 10)))), (7, .int (nI y)), (8, .int (nI (by2 f (p + 14 + by4 f (p + 10))))), (9, .int (nI (p + 14 + by4 f (p + 10) + 2))), (10, .int (nI (p + 14 + by4 f (p + 10) + 2 + 8 * by2 f (p + 14 + by4 f (p + 10))))), (11, .int (nI (by2 f (p + 14 + by4 f (p + 10) + 2 + 8 * by2 f (p + 14 + by4 f (p + 10)))))), (12, .int (nI i))], [.int (nI (argN l))], M1) _
                have hal_208 := argN_lt l
                refine ps_st (S' := (212, [(0, .ref m0), (2, .int (nI (p + 6))), (3, .int (nI e)), (4, .int (nI x)), (5, .long (nL (by4 f (p + 10)))), (7, .int (nI y)), (8, .int (nI (by2 f (p + 14 + by4 f (p + 10))))), (9, .int (nI (p + 14 + by4 f (p + 10) + 2))), (10, .int (nI (p + 14 + by4 f (p + 10) + 2 + 8 * by2 f (p + 14 + by4 f (p + 10))))), (11, .int (nI (by2 f (p + 14 + by4 f (p + 10) + 2 + 8 * by2 f (p + 14 + by4 f (p + 10)))))), (12, .int (nI i))], [.ref m0, .int (nI (argN l))], M1)) rfl rfl rfl ?_
                refine pr_ref (j := 34) (S' := (215, [(0, .ref m0), (2, .int (nI (p + 6))), (3, .int (nI e)), (4, .int (nI x)), (5, .long (nL (by4 f (p + 10)))), (7, .int (nI y)), (8, .int (nI (by2 f (p + 14 + by4 f (p + 10))))), (9, .int (nI (p + 14 + by4 f (p + 10) + 2))), (10, .int (nI (p + 14 + by4 f (p + 10) + 2 + 8 * by2 f (p + 14 + by4 f (p + 10))))), (11, .int (nI (by2 f (p + 14 + by4 f (p + 10) + 2 + 8 * by2 f (p + 14 + by4 f (p + 10)))))), (12, .int (nI i))], [.ref (q 34), .int (nI (argN l))], M1)) rfl hR1 rfl rfl ?_
                refine ps_st (S' := (217, [(0, .ref m0), (2, .int (nI (p + 6))), (3, .int (nI e)), (4, .int (nI x)), (5, .long (nL (by4 f (p + 10)))), (7, .int (nI y)), (8, .int (nI (by2 f (p + 14 + by4 f (p + 10))))), (9, .int (nI (p + 14 + by4 f (p + 10) + 2))), (10, .int (nI (p + 14 + by4 f (p + 10) + 2 + 8 * by2 f (p + 14 + by4 f (p + 10))))), (11, .int (nI (by2 f (p + 14 + by4 f (p + 10) + 2 + 8 * by2 f (p + 14 + by4 f (p + 10)))))), (12, .int (nI i))], [.int (nI x), .ref (q 34), .int (nI (argN l))], M1)) rfl rfl rfl ?_
                refine pr_ld (a := 34) (j := x) (y := (nI fl)) (S' := (218, [(0, .ref m0), (2, .int (nI (p + 6))), (3, .int (nI e)), (4, .int (nI x)), (5, .long (nL (by4 f (p + 10)))), (7, .int (nI y)), (8, .int (nI (by2 f (p + 14 + by4 f (p + 10))))), (9, .int (nI (p + 14 + by4 f (p + 10) + 2))), (10, .int (nI (p + 14 + by4 f (p + 10) + 2 + 8 * by2 f (p + 14 + by4 f (p + 10))))), (11, .int (nI (by2 f (p + 14 + by4 f (p + 10) + 2 + 8 * by2 f (p + 14 + by4 f (p + 10)))))), (12, .int (nI i))], [.int (nI fl), .int (nI (argN l))], M1)) rfl hR1 rfl (by omega) (fun _ => hr.1) rfl (fun i1_217 => ?_)
                refine ps_st (S' := (220, [(0, .ref m0), (2, .int (nI (p + 6))), (3, .int (nI e)), (4, .int (nI x)), (5, .long (nL (by4 f (p + 10)))), (7, .int (nI y)), (8, .int (nI (by2 f (p + 14 + by4 f (p + 10))))), (9, .int (nI (p + 14 + by4 f (p + 10) + 2))), (10, .int (nI (p + 14 + by4 f (p + 10) + 2 + 8 * by2 f (p + 14 + by4 f (p + 10))))), (11, .int (nI (by2 f (p + 14 + by4 f (p + 10) + 2 + 8 * by2 f (p + 14 + by4 f (p + 10)))))), (12, .int (nI i))], [.int 8, .int (nI fl), .int (nI (argN l))], M1)) rfl rfl rfl ?_
                refine ps_st (S' := (221, [(0, .ref m0), (2, .int (nI (p + 6))), (3, .int (nI e)), (4, .int (nI x)), (5, .long (nL (by4 f (p + 10)))), (7, .int (nI y)), (8, .int (nI (by2 f (p + 14 + by4 f (p + 10))))), (9, .int (nI (p + 14 + by4 f (p + 10) + 2))), (10, .int (nI (p + 14 + by4 f (p + 10) + 2 + 8 * by2 f (p + 14 + by4 f (p + 10))))), (11, .int (nI (by2 f (p + 14 + by4 f (p + 10) + 2 + 8 * by2 f (p + 14 + by4 f (p + 10)))))), (12, .int (nI i))], [.int ((nI fl) &&& 8), .int (nI (argN l))], M1)) rfl rfl rfl ?_
                rw [nI_an (p := fl) (k := 8) (x := 8) rfl]
                show pl _ _ _ (_, [(0, .ref m0), (2, .int (nI (p + 6))), (3, .int (nI e)), (4, .int (nI x)), (5, .long (nL (by4 f (p + 10)))), (7, .int (nI y)), (8, .int (nI (by2 f (p + 14 + by4 f (p + 10))))), (9, .int (nI (p + 14 + by4 f (p + 10) + 2))), (10, .int (nI (p + 14 + by4 f (p + 10) + 2 + 8 * by2 f (p + 14 + by4 f (p + 10))))), (11, .int (nI (by2 f (p + 14 + by4 f (p + 10) + 2 + 8 * by2 f (p + 14 + by4 f (p + 10)))))), (12, .int (nI i))], [.int (nI (aN fl 8)), .int (nI (argN l))], M1) _
                refine ps_if (S1 := (228, [(0, .ref m0), (2, .int (nI (p + 6))), (3, .int (nI e)), (4, .int (nI x)), (5, .long (nL (by4 f (p + 10)))), (7, .int (nI y)), (8, .int (nI (by2 f (p + 14 + by4 f (p + 10))))), (9, .int (nI (p + 14 + by4 f (p + 10) + 2))), (10, .int (nI (p + 14 + by4 f (p + 10) + 2 + 8 * by2 f (p + 14 + by4 f (p + 10))))), (11, .int (nI (by2 f (p + 14 + by4 f (p + 10) + 2 + 8 * by2 f (p + 14 + by4 f (p + 10)))))), (12, .int (nI i))], [.int (nI (argN l))], M1)) (S2 := (224, [(0, .ref m0), (2, .int (nI (p + 6))), (3, .int (nI e)), (4, .int (nI x)), (5, .long (nL (by4 f (p + 10)))), (7, .int (nI y)), (8, .int (nI (by2 f (p + 14 + by4 f (p + 10))))), (9, .int (nI (p + 14 + by4 f (p + 10) + 2))), (10, .int (nI (p + 14 + by4 f (p + 10) + 2 + 8 * by2 f (p + 14 + by4 f (p + 10))))), (11, .int (nI (by2 f (p + 14 + by4 f (p + 10) + 2 + 8 * by2 f (p + 14 + by4 f (p + 10)))))), (12, .int (nI i))], [.int (nI (argN l))], M1)) rfl rfl rfl (fun c_221 => ?_) (fun c_221 => ?_)
                · have c_221 : ¬ (nI (aN fl 8)) = 0 := of_decide_eq_true c_221
                  have n_221 : ¬ (aN fl 8 = 0) := fun h9 => c_221 ((eq_nI (p := aN fl 8) (n := 0) (Nat.lt_of_le_of_lt (an_le _ _) (by decide)) (by decide)).mpr h9)
                  refine ps_st (S' := (229, [(0, .ref m0), (2, .int (nI (p + 6))), (4, .int (nI x)), (5, .long (nL (by4 f (p + 10)))), (8, .int (nI (by2 f (p + 14 + by4 f (p + 10))))), (9, .int (nI (p + 14 + by4 f (p + 10) + 2))), (10, .int (nI (p + 14 + by4 f (p + 10) + 2 + 8 * by2 f (p + 14 + by4 f (p + 10)))))], [.int 0, .int (nI (argN l))], M1)) rfl rfl rfl ?_
                  refine ps_st (S' := (230, [(0, .ref m0), (2, .int (nI (p + 6))), (4, .int (nI x)), (5, .long (nL (by4 f (p + 10)))), (8, .int (nI (by2 f (p + 14 + by4 f (p + 10))))), (9, .int (nI (p + 14 + by4 f (p + 10) + 2))), (10, .int (nI (p + 14 + by4 f (p + 10) + 2 + 8 * by2 f (p + 14 + by4 f (p + 10)))))], [.int ((nI (argN l)) + 0)], M1)) rfl rfl rfl ?_
                  rw [nI_add1 (p := argN l) (k := 0) (x := 0) rfl (by omega)]
                  show pl _ _ _ (_, [(0, .ref m0), (2, .int (nI (p + 6))), (4, .int (nI x)), (5, .long (nL (by4 f (p + 10)))), (8, .int (nI (by2 f (p + 14 + by4 f (p + 10))))), (9, .int (nI (p + 14 + by4 f (p + 10) + 2))), (10, .int (nI (p + 14 + by4 f (p + 10) + 2 + 8 * by2 f (p + 14 + by4 f (p + 10)))))], [.int (nI (argN l + 0))], M1) _
                  refine pl_top (x := (nI (argN l + 0))) (y := (nI w)) (congrArg nI (by rw [hw]; first | rw [if_pos (by omega)] | rw [if_neg (by omega)])) ?_
                  have hwl : w < 2000 := by rw [hw]; have := argN_lt l; split <;> omega
                  refine ps_st (S' := (232, [(12, .int (nI w)), (0, .ref m0), (2, .int (nI (p + 6))), (4, .int (nI x)), (5, .long (nL (by4 f (p + 10)))), (8, .int (nI (by2 f (p + 14 + by4 f (p + 10))))), (9, .int (nI (p + 14 + by4 f (p + 10) + 2))), (10, .int (nI (p + 14 + by4 f (p + 10) + 2 + 8 * by2 f (p + 14 + by4 f (p + 10)))))], [], M1)) rfl rfl rfl ?_
                  refine ps_st (S' := (233, [(12, .int (nI w)), (0, .ref m0), (2, .int (nI (p + 6))), (4, .int (nI x)), (5, .long (nL (by4 f (p + 10)))), (8, .int (nI (by2 f (p + 14 + by4 f (p + 10))))), (9, .int (nI (p + 14 + by4 f (p + 10) + 2))), (10, .int (nI (p + 14 + by4 f (p + 10) + 2 + 8 * by2 f (p + 14 + by4 f (p + 10)))))], [.ref m0], M1)) rfl rfl rfl ?_
                  refine ps_st (S' := (234, [(12, .int (nI w)), (0, .ref m0), (2, .int (nI (p + 6))), (4, .int (nI x)), (5, .long (nL (by4 f (p + 10)))), (8, .int (nI (by2 f (p + 14 + by4 f (p + 10))))), (9, .int (nI (p + 14 + by4 f (p + 10) + 2))), (10, .int (nI (p + 14 + by4 f (p + 10) + 2 + 8 * by2 f (p + 14 + by4 f (p + 10)))))], [.int (nI (p + 6)), .ref m0], M1)) rfl rfl rfl ?_
                  refine ps_st (S' := (235, [(12, .int (nI w)), (0, .ref m0), (2, .int (nI (p + 6))), (4, .int (nI x)), (5, .long (nL (by4 f (p + 10)))), (8, .int (nI (by2 f (p + 14 + by4 f (p + 10))))), (9, .int (nI (p + 14 + by4 f (p + 10) + 2))), (10, .int (nI (p + 14 + by4 f (p + 10) + 2 + 8 * by2 f (p + 14 + by4 f (p + 10)))))], [.int 2, .int (nI (p + 6)), .ref m0], M1)) rfl rfl rfl ?_
                  refine ps_st (S' := (236, [(12, .int (nI w)), (0, .ref m0), (2, .int (nI (p + 6))), (4, .int (nI x)), (5, .long (nL (by4 f (p + 10)))), (8, .int (nI (by2 f (p + 14 + by4 f (p + 10))))), (9, .int (nI (p + 14 + by4 f (p + 10) + 2))), (10, .int (nI (p + 14 + by4 f (p + 10) + 2 + 8 * by2 f (p + 14 + by4 f (p + 10)))))], [.int ((nI (p + 6)) + 2), .ref m0], M1)) rfl rfl rfl ?_
                  rw [nI_add1 (p := p + 6) (k := 2) (x := 2) rfl (by omega)]
                  show pl _ _ _ (_, [(12, .int (nI w)), (0, .ref m0), (2, .int (nI (p + 6))), (4, .int (nI x)), (5, .long (nL (by4 f (p + 10)))), (8, .int (nI (by2 f (p + 14 + by4 f (p + 10))))), (9, .int (nI (p + 14 + by4 f (p + 10) + 2))), (10, .int (nI (p + 14 + by4 f (p + 10) + 2 + 8 * by2 f (p + 14 + by4 f (p + 10)))))], [.int (nI (p + 8)), .ref m0], M1) _
                  refine pl_call (a := [.ref m0, .int (nI (p + 8))]) (rest := []) rfl rfl rfl (rd_u2 (n := n) (f := f) (p := (p + 8)) hR1 hF1 (by omega)) (fun v4 M5 q6 => ?_)
                  obtain ⟨rfl, rfl⟩ := q6
                  show pl _ _ _ (239, [(12, .int (nI w)), (0, .ref m0), (2, .int (nI (p + 6))), (4, .int (nI x)), (5, .long (nL (by4 f (p + 10)))), (8, .int (nI (by2 f (p + 14 + by4 f (p + 10))))), (9, .int (nI (p + 14 + by4 f (p + 10) + 2))), (10, .int (nI (p + 14 + by4 f (p + 10) + 2 + 8 * by2 f (p + 14 + by4 f (p + 10)))))], [.int (nI (by2 f (p + 8)))], M1) _
                  have hu_236 := by2_lt f (p + 8)
                  refine ps_st (S' := (241, [(12, .int (nI w)), (0, .ref m0), (2, .int (nI (p + 6))), (4, .int (nI x)), (5, .long (nL (by4 f (p + 10)))), (8, .int (nI (by2 f (p + 14 + by4 f (p + 10))))), (9, .int (nI (p + 14 + by4 f (p + 10) + 2))), (10, .int (nI (p + 14 + by4 f (p + 10) + 2 + 8 * by2 f (p + 14 + by4 f (p + 10)))))], [.int (nI w), .int (nI (by2 f (p + 8)))], M1)) rfl rfl rfl ?_
                  refine ps_if2 (S1 := (247, [(12, .int (nI w)), (0, .ref m0), (2, .int (nI (p + 6))), (4, .int (nI x)), (5, .long (nL (by4 f (p + 10)))), (8, .int (nI (by2 f (p + 14 + by4 f (p + 10))))), (9, .int (nI (p + 14 + by4 f (p + 10) + 2))), (10, .int (nI (p + 14 + by4 f (p + 10) + 2 + 8 * by2 f (p + 14 + by4 f (p + 10)))))], [], M1)) (S2 := (244, [(12, .int (nI w)), (0, .ref m0), (2, .int (nI (p + 6))), (4, .int (nI x)), (5, .long (nL (by4 f (p + 10)))), (8, .int (nI (by2 f (p + 14 + by4 f (p + 10))))), (9, .int (nI (p + 14 + by4 f (p + 10) + 2))), (10, .int (nI (p + 14 + by4 f (p + 10) + 2 + 8 * by2 f (p + 14 + by4 f (p + 10)))))], [], M1)) rfl rfl rfl (fun c_241 => ?_) (fun c_241 => ?_)
                  · have c_241 : (nI w) ≤ (nI (by2 f (p + 8))) := of_decide_eq_true c_241
                    have n_241 : w ≤ by2 f (p + 8) := (le_nI (p := w) (n := by2 f (p + 8)) (by omega) (Nat.lt_trans (by2_lt _ _) (by decide))).mp c_241
                    refine ps_st (S' := (248, [(12, .int (nI w)), (0, .ref m0), (2, .int (nI (p + 6))), (4, .int (nI x)), (5, .long (nL (by4 f (p + 10)))), (8, .int (nI (by2 f (p + 14 + by4 f (p + 10))))), (9, .int (nI (p + 14 + by4 f (p + 10) + 2))), (10, .int (nI (p + 14 + by4 f (p + 10) + 2 + 8 * by2 f (p + 14 + by4 f (p + 10)))))], [.int 0], M1)) rfl rfl rfl ?_
                    refine ps_st (S' := (250, [(0, .ref m0), (2, .int (nI (p + 6))), (4, .int (nI x)), (5, .long (nL (by4 f (p + 10)))), (8, .int (nI (by2 f (p + 14 + by4 f (p + 10))))), (9, .int (nI (p + 14 + by4 f (p + 10) + 2))), (10, .int (nI (p + 14 + by4 f (p + 10) + 2 + 8 * by2 f (p + 14 + by4 f (p + 10))))), (13, .int 0)], [], M1)) rfl rfl rfl ?_
                    exact ih.2 (0) M1 I1 R1 hR1 hEI1 hER1 hl51 hl52 hl53 hF1 hY1 hP1 hK1 hW1 (hr) (hb) (hce) (by omega) (by omega) (by omega) (rfl)
                  · have c_241 : ¬ ((nI w) ≤ (nI (by2 f (p + 8)))) := of_decide_eq_false c_241
                    have n_241 : ¬ (w ≤ by2 f (p + 8)) := fun h9 => c_241 ((le_nI (p := w) (n := by2 f (p + 8)) (by omega) (Nat.lt_trans (by2_lt _ _) (by decide))).mpr h9)
                    refine ps_st (S' := (246, [(12, .int (nI w)), (0, .ref m0), (2, .int (nI (p + 6))), (4, .int (nI x)), (5, .long (nL (by4 f (p + 10)))), (8, .int (nI (by2 f (p + 14 + by4 f (p + 10))))), (9, .int (nI (p + 14 + by4 f (p + 10) + 2))), (10, .int (nI (p + 14 + by4 f (p + 10) + 2 + 8 * by2 f (p + 14 + by4 f (p + 10)))))], [.int 42], M1)) rfl rfl rfl ?_
                    exact ps_ret rfl rfl (Or.inr (Or.inl ⟨42, I1, R1, hce, by
                        unfold cdS
                        rw [if_neg (by omega), if_pos (by omega)], by decide, rfl, hR1, hEI1, hER1⟩))
                · have c_221 : ¬ (¬ (nI (aN fl 8)) = 0) := of_decide_eq_false c_221
                  have n_221 : aN fl 8 = 0 := (eq_nI (p := aN fl 8) (n := 0) (Nat.lt_of_le_of_lt (an_le _ _) (by decide)) (by decide)).mp (Decidable.not_not.mp c_221)
                  refine ps_st (S' := (225, [(0, .ref m0), (2, .int (nI (p + 6))), (3, .int (nI e)), (4, .int (nI x)), (5, .long (nL (by4 f (p + 10)))), (7, .int (nI y)), (8, .int (nI (by2 f (p + 14 + by4 f (p + 10))))), (9, .int (nI (p + 14 + by4 f (p + 10) + 2))), (10, .int (nI (p + 14 + by4 f (p + 10) + 2 + 8 * by2 f (p + 14 + by4 f (p + 10))))), (11, .int (nI (by2 f (p + 14 + by4 f (p + 10) + 2 + 8 * by2 f (p + 14 + by4 f (p + 10)))))), (12, .int (nI i))], [.int 1, .int (nI (argN l))], M1)) rfl rfl rfl ?_
                  refine ps_st (S' := (229, [(0, .ref m0), (2, .int (nI (p + 6))), (4, .int (nI x)), (5, .long (nL (by4 f (p + 10)))), (8, .int (nI (by2 f (p + 14 + by4 f (p + 10))))), (9, .int (nI (p + 14 + by4 f (p + 10) + 2))), (10, .int (nI (p + 14 + by4 f (p + 10) + 2 + 8 * by2 f (p + 14 + by4 f (p + 10)))))], [.int 1, .int (nI (argN l))], M1)) rfl rfl rfl ?_
                  refine ps_st (S' := (230, [(0, .ref m0), (2, .int (nI (p + 6))), (4, .int (nI x)), (5, .long (nL (by4 f (p + 10)))), (8, .int (nI (by2 f (p + 14 + by4 f (p + 10))))), (9, .int (nI (p + 14 + by4 f (p + 10) + 2))), (10, .int (nI (p + 14 + by4 f (p + 10) + 2 + 8 * by2 f (p + 14 + by4 f (p + 10)))))], [.int ((nI (argN l)) + 1)], M1)) rfl rfl rfl ?_
                  rw [nI_add1 (p := argN l) (k := 1) (x := 1) rfl (by omega)]
                  show pl _ _ _ (_, [(0, .ref m0), (2, .int (nI (p + 6))), (4, .int (nI x)), (5, .long (nL (by4 f (p + 10)))), (8, .int (nI (by2 f (p + 14 + by4 f (p + 10))))), (9, .int (nI (p + 14 + by4 f (p + 10) + 2))), (10, .int (nI (p + 14 + by4 f (p + 10) + 2 + 8 * by2 f (p + 14 + by4 f (p + 10)))))], [.int (nI (argN l + 1))], M1) _
                  refine pl_top (x := (nI (argN l + 1))) (y := (nI w)) (congrArg nI (by rw [hw]; first | rw [if_pos (by omega)] | rw [if_neg (by omega)])) ?_
                  have hwl : w < 2000 := by rw [hw]; have := argN_lt l; split <;> omega
                  refine ps_st (S' := (232, [(12, .int (nI w)), (0, .ref m0), (2, .int (nI (p + 6))), (4, .int (nI x)), (5, .long (nL (by4 f (p + 10)))), (8, .int (nI (by2 f (p + 14 + by4 f (p + 10))))), (9, .int (nI (p + 14 + by4 f (p + 10) + 2))), (10, .int (nI (p + 14 + by4 f (p + 10) + 2 + 8 * by2 f (p + 14 + by4 f (p + 10)))))], [], M1)) rfl rfl rfl ?_
                  refine ps_st (S' := (233, [(12, .int (nI w)), (0, .ref m0), (2, .int (nI (p + 6))), (4, .int (nI x)), (5, .long (nL (by4 f (p + 10)))), (8, .int (nI (by2 f (p + 14 + by4 f (p + 10))))), (9, .int (nI (p + 14 + by4 f (p + 10) + 2))), (10, .int (nI (p + 14 + by4 f (p + 10) + 2 + 8 * by2 f (p + 14 + by4 f (p + 10)))))], [.ref m0], M1)) rfl rfl rfl ?_
                  refine ps_st (S' := (234, [(12, .int (nI w)), (0, .ref m0), (2, .int (nI (p + 6))), (4, .int (nI x)), (5, .long (nL (by4 f (p + 10)))), (8, .int (nI (by2 f (p + 14 + by4 f (p + 10))))), (9, .int (nI (p + 14 + by4 f (p + 10) + 2))), (10, .int (nI (p + 14 + by4 f (p + 10) + 2 + 8 * by2 f (p + 14 + by4 f (p + 10)))))], [.int (nI (p + 6)), .ref m0], M1)) rfl rfl rfl ?_
                  refine ps_st (S' := (235, [(12, .int (nI w)), (0, .ref m0), (2, .int (nI (p + 6))), (4, .int (nI x)), (5, .long (nL (by4 f (p + 10)))), (8, .int (nI (by2 f (p + 14 + by4 f (p + 10))))), (9, .int (nI (p + 14 + by4 f (p + 10) + 2))), (10, .int (nI (p + 14 + by4 f (p + 10) + 2 + 8 * by2 f (p + 14 + by4 f (p + 10)))))], [.int 2, .int (nI (p + 6)), .ref m0], M1)) rfl rfl rfl ?_
                  refine ps_st (S' := (236, [(12, .int (nI w)), (0, .ref m0), (2, .int (nI (p + 6))), (4, .int (nI x)), (5, .long (nL (by4 f (p + 10)))), (8, .int (nI (by2 f (p + 14 + by4 f (p + 10))))), (9, .int (nI (p + 14 + by4 f (p + 10) + 2))), (10, .int (nI (p + 14 + by4 f (p + 10) + 2 + 8 * by2 f (p + 14 + by4 f (p + 10)))))], [.int ((nI (p + 6)) + 2), .ref m0], M1)) rfl rfl rfl ?_
                  rw [nI_add1 (p := p + 6) (k := 2) (x := 2) rfl (by omega)]
                  show pl _ _ _ (_, [(12, .int (nI w)), (0, .ref m0), (2, .int (nI (p + 6))), (4, .int (nI x)), (5, .long (nL (by4 f (p + 10)))), (8, .int (nI (by2 f (p + 14 + by4 f (p + 10))))), (9, .int (nI (p + 14 + by4 f (p + 10) + 2))), (10, .int (nI (p + 14 + by4 f (p + 10) + 2 + 8 * by2 f (p + 14 + by4 f (p + 10)))))], [.int (nI (p + 8)), .ref m0], M1) _
                  refine pl_call (a := [.ref m0, .int (nI (p + 8))]) (rest := []) rfl rfl rfl (rd_u2 (n := n) (f := f) (p := (p + 8)) hR1 hF1 (by omega)) (fun v7 M8 q9 => ?_)
                  obtain ⟨rfl, rfl⟩ := q9
                  show pl _ _ _ (239, [(12, .int (nI w)), (0, .ref m0), (2, .int (nI (p + 6))), (4, .int (nI x)), (5, .long (nL (by4 f (p + 10)))), (8, .int (nI (by2 f (p + 14 + by4 f (p + 10))))), (9, .int (nI (p + 14 + by4 f (p + 10) + 2))), (10, .int (nI (p + 14 + by4 f (p + 10) + 2 + 8 * by2 f (p + 14 + by4 f (p + 10)))))], [.int (nI (by2 f (p + 8)))], M1) _
                  have hu_236 := by2_lt f (p + 8)
                  refine ps_st (S' := (241, [(12, .int (nI w)), (0, .ref m0), (2, .int (nI (p + 6))), (4, .int (nI x)), (5, .long (nL (by4 f (p + 10)))), (8, .int (nI (by2 f (p + 14 + by4 f (p + 10))))), (9, .int (nI (p + 14 + by4 f (p + 10) + 2))), (10, .int (nI (p + 14 + by4 f (p + 10) + 2 + 8 * by2 f (p + 14 + by4 f (p + 10)))))], [.int (nI w), .int (nI (by2 f (p + 8)))], M1)) rfl rfl rfl ?_
                  refine ps_if2 (S1 := (247, [(12, .int (nI w)), (0, .ref m0), (2, .int (nI (p + 6))), (4, .int (nI x)), (5, .long (nL (by4 f (p + 10)))), (8, .int (nI (by2 f (p + 14 + by4 f (p + 10))))), (9, .int (nI (p + 14 + by4 f (p + 10) + 2))), (10, .int (nI (p + 14 + by4 f (p + 10) + 2 + 8 * by2 f (p + 14 + by4 f (p + 10)))))], [], M1)) (S2 := (244, [(12, .int (nI w)), (0, .ref m0), (2, .int (nI (p + 6))), (4, .int (nI x)), (5, .long (nL (by4 f (p + 10)))), (8, .int (nI (by2 f (p + 14 + by4 f (p + 10))))), (9, .int (nI (p + 14 + by4 f (p + 10) + 2))), (10, .int (nI (p + 14 + by4 f (p + 10) + 2 + 8 * by2 f (p + 14 + by4 f (p + 10)))))], [], M1)) rfl rfl rfl (fun c_241 => ?_) (fun c_241 => ?_)
                  · have c_241 : (nI w) ≤ (nI (by2 f (p + 8))) := of_decide_eq_true c_241
                    have n_241 : w ≤ by2 f (p + 8) := (le_nI (p := w) (n := by2 f (p + 8)) (by omega) (Nat.lt_trans (by2_lt _ _) (by decide))).mp c_241
                    refine ps_st (S' := (248, [(12, .int (nI w)), (0, .ref m0), (2, .int (nI (p + 6))), (4, .int (nI x)), (5, .long (nL (by4 f (p + 10)))), (8, .int (nI (by2 f (p + 14 + by4 f (p + 10))))), (9, .int (nI (p + 14 + by4 f (p + 10) + 2))), (10, .int (nI (p + 14 + by4 f (p + 10) + 2 + 8 * by2 f (p + 14 + by4 f (p + 10)))))], [.int 0], M1)) rfl rfl rfl ?_
                    refine ps_st (S' := (250, [(0, .ref m0), (2, .int (nI (p + 6))), (4, .int (nI x)), (5, .long (nL (by4 f (p + 10)))), (8, .int (nI (by2 f (p + 14 + by4 f (p + 10))))), (9, .int (nI (p + 14 + by4 f (p + 10) + 2))), (10, .int (nI (p + 14 + by4 f (p + 10) + 2 + 8 * by2 f (p + 14 + by4 f (p + 10))))), (13, .int 0)], [], M1)) rfl rfl rfl ?_
                    exact ih.2 (0) M1 I1 R1 hR1 hEI1 hER1 hl51 hl52 hl53 hF1 hY1 hP1 hK1 hW1 (hr) (hb) (hce) (by omega) (by omega) (by omega) (rfl)
                  · have c_241 : ¬ ((nI w) ≤ (nI (by2 f (p + 8)))) := of_decide_eq_false c_241
                    have n_241 : ¬ (w ≤ by2 f (p + 8)) := fun h9 => c_241 ((le_nI (p := w) (n := by2 f (p + 8)) (by omega) (Nat.lt_trans (by2_lt _ _) (by decide))).mpr h9)
                    refine ps_st (S' := (246, [(12, .int (nI w)), (0, .ref m0), (2, .int (nI (p + 6))), (4, .int (nI x)), (5, .long (nL (by4 f (p + 10)))), (8, .int (nI (by2 f (p + 14 + by4 f (p + 10))))), (9, .int (nI (p + 14 + by4 f (p + 10) + 2))), (10, .int (nI (p + 14 + by4 f (p + 10) + 2 + 8 * by2 f (p + 14 + by4 f (p + 10)))))], [.int 42], M1)) rfl rfl rfl ?_
                    exact ps_ret rfl rfl (Or.inr (Or.inl ⟨42, I1, R1, hce, by
                        unfold cdS
                        rw [if_neg (by omega), if_pos (by omega)], by decide, rfl, hR1, hEI1, hER1⟩))
              · have n_194 : ¬ (by4 f (p + 10) ≤ 65535) := fun h9 => of_decide_eq_false c_194 ((cL_le (p := by4 f (p + 10)) (k := 65535) (x := (nL (by4 f (p + 10)))) (y := 65535) rfl rfl (by omega) (by omega)).mpr h9)
                refine ps_st (S' := (199, [], [.int 41], M1)) rfl rfl rfl ?_
                exact ps_ret rfl rfl (Or.inr (Or.inl ⟨41, I1, R1, hce, by
                    unfold cdS
                    rw [if_pos (by omega)], by decide, rfl, hR1, hEI1, hER1⟩))
          · have c_175 : ¬ ((nI y) = (nI e)) := of_decide_eq_false c_175
            have n_175 : ¬ (y = e) := fun h9 => c_175 ((eq_nI (p := y) (n := e) (by omega) (by omega)).mpr h9)
            refine ps_st (S' := (180, [(0, .ref m0), (2, .int (nI (p + 6))), (3, .int (nI e)), (4, .int (nI x)), (5, .long (nL (by4 f (p + 10)))), (7, .int (nI y)), (8, .int (nI (by2 f (p + 14 + by4 f (p + 10))))), (9, .int (nI (p + 14 + by4 f (p + 10) + 2))), (10, .int (nI (p + 14 + by4 f (p + 10) + 2 + 8 * by2 f (p + 14 + by4 f (p + 10))))), (11, .int (nI (by2 f (p + 14 + by4 f (p + 10) + 2 + 8 * by2 f (p + 14 + by4 f (p + 10)))))), (12, .int (nI i))], [.int 30], M1)) rfl rfl rfl ?_
            exact ps_ret rfl rfl (Or.inl ⟨I1, R1, by
                rw [cdE_of]
                rw [if_neg (by omega), if_neg (by omega), if_neg (by omega), ← hg]
                rw [show by2 f (p + 14 + by4 f (p + 10) + 2 + 8 * by2 f (p + 14 + by4 f (p + 10))) - i = 0 by omega]
                exact (fun h9 => n_175 (Option.some.inj h9)), rfl, hR1, hEI1, hER1⟩)
        · have c_114 : ¬ ((nI (by2 f (p + 14 + by4 f (p + 10) + 2 + 8 * by2 f (p + 14 + by4 f (p + 10))))) ≤ (nI i)) := of_decide_eq_false c_114
          have n_114 : ¬ (by2 f (p + 14 + by4 f (p + 10) + 2 + 8 * by2 f (p + 14 + by4 f (p + 10))) ≤ i) := fun h9 => c_114 ((le_nI (p := by2 f (p + 14 + by4 f (p + 10) + 2 + 8 * by2 f (p + 14 + by4 f (p + 10)))) (n := i) (Nat.lt_trans (by2_lt _ _) (by decide)) (by omega)).mpr h9)
          refine ps_st (S' := (119, [(0, .ref m0), (2, .int (nI (p + 6))), (3, .int (nI e)), (4, .int (nI x)), (5, .long (nL (by4 f (p + 10)))), (7, .int (nI y)), (8, .int (nI (by2 f (p + 14 + by4 f (p + 10))))), (9, .int (nI (p + 14 + by4 f (p + 10) + 2))), (10, .int (nI (p + 14 + by4 f (p + 10) + 2 + 8 * by2 f (p + 14 + by4 f (p + 10))))), (11, .int (nI (by2 f (p + 14 + by4 f (p + 10) + 2 + 8 * by2 f (p + 14 + by4 f (p + 10)))))), (12, .int (nI i))], [.int (nI y)], M1)) rfl rfl rfl ?_
          refine ps_st (S' := (121, [(0, .ref m0), (2, .int (nI (p + 6))), (3, .int (nI e)), (4, .int (nI x)), (5, .long (nL (by4 f (p + 10)))), (7, .int (nI y)), (8, .int (nI (by2 f (p + 14 + by4 f (p + 10))))), (9, .int (nI (p + 14 + by4 f (p + 10) + 2))), (10, .int (nI (p + 14 + by4 f (p + 10) + 2 + 8 * by2 f (p + 14 + by4 f (p + 10))))), (11, .int (nI (by2 f (p + 14 + by4 f (p + 10) + 2 + 8 * by2 f (p + 14 + by4 f (p + 10)))))), (12, .int (nI i))], [.int 6, .int (nI y)], M1)) rfl rfl rfl ?_
          refine ps_st (S' := (122, [(0, .ref m0), (2, .int (nI (p + 6))), (3, .int (nI e)), (4, .int (nI x)), (5, .long (nL (by4 f (p + 10)))), (7, .int (nI y)), (8, .int (nI (by2 f (p + 14 + by4 f (p + 10))))), (9, .int (nI (p + 14 + by4 f (p + 10) + 2))), (10, .int (nI (p + 14 + by4 f (p + 10) + 2 + 8 * by2 f (p + 14 + by4 f (p + 10))))), (11, .int (nI (by2 f (p + 14 + by4 f (p + 10) + 2 + 8 * by2 f (p + 14 + by4 f (p + 10)))))), (12, .int (nI i))], [.int ((nI y) + 6)], M1)) rfl rfl rfl ?_
          rw [nI_add1 (p := y) (k := 6) (x := 6) rfl (by omega)]
          show pl _ _ _ (_, [(0, .ref m0), (2, .int (nI (p + 6))), (3, .int (nI e)), (4, .int (nI x)), (5, .long (nL (by4 f (p + 10)))), (7, .int (nI y)), (8, .int (nI (by2 f (p + 14 + by4 f (p + 10))))), (9, .int (nI (p + 14 + by4 f (p + 10) + 2))), (10, .int (nI (p + 14 + by4 f (p + 10) + 2 + 8 * by2 f (p + 14 + by4 f (p + 10))))), (11, .int (nI (by2 f (p + 14 + by4 f (p + 10) + 2 + 8 * by2 f (p + 14 + by4 f (p + 10)))))), (12, .int (nI i))], [.int (nI (y + 6))], M1) _
          refine ps_st (S' := (123, [(0, .ref m0), (2, .int (nI (p + 6))), (3, .int (nI e)), (4, .int (nI x)), (5, .long (nL (by4 f (p + 10)))), (7, .int (nI y)), (8, .int (nI (by2 f (p + 14 + by4 f (p + 10))))), (9, .int (nI (p + 14 + by4 f (p + 10) + 2))), (10, .int (nI (p + 14 + by4 f (p + 10) + 2 + 8 * by2 f (p + 14 + by4 f (p + 10))))), (11, .int (nI (by2 f (p + 14 + by4 f (p + 10) + 2 + 8 * by2 f (p + 14 + by4 f (p + 10)))))), (12, .int (nI i))], [.int (nI e), .int (nI (y + 6))], M1)) rfl rfl rfl ?_
          refine ps_if2 (S1 := (146, [], [], M1)) (S2 := (126, [(0, .ref m0), (2, .int (nI (p + 6))), (3, .int (nI e)), (4, .int (nI x)), (5, .long (nL (by4 f (p + 10)))), (7, .int (nI y)), (8, .int (nI (by2 f (p + 14 + by4 f (p + 10))))), (9, .int (nI (p + 14 + by4 f (p + 10) + 2))), (10, .int (nI (p + 14 + by4 f (p + 10) + 2 + 8 * by2 f (p + 14 + by4 f (p + 10))))), (11, .int (nI (by2 f (p + 14 + by4 f (p + 10) + 2 + 8 * by2 f (p + 14 + by4 f (p + 10)))))), (12, .int (nI i))], [], M1)) rfl rfl rfl (fun c_123 => ?_) (fun c_123 => ?_)
          · have c_123 : (nI e) < (nI (y + 6)) := of_decide_eq_true c_123
            have n_123 : e < y + 6 := (lt_nI (p := e) (n := y + 6) (by omega) (by omega)).mp c_123
            refine ps_st (S' := (148, [], [.int 30], M1)) rfl rfl rfl ?_
            exact ps_ret rfl rfl (Or.inl ⟨I1, R1, by
                rw [cdE_of]
                rw [if_neg (by omega), if_neg (by omega), if_neg (by omega), ← hg]
                rw [s_atE_st (i := i) (p := y) (by omega), if_pos (by omega)]
                exact (fun h9 => (by cases h9)), rfl, hR1, hEI1, hER1⟩)
          · have c_123 : ¬ ((nI e) < (nI (y + 6))) := of_decide_eq_false c_123
            have n_123 : ¬ (e < y + 6) := fun h9 => c_123 ((lt_nI (p := e) (n := y + 6) (by omega) (by omega)).mpr h9)
            refine ps_st (S' := (127, [(0, .ref m0), (2, .int (nI (p + 6))), (3, .int (nI e)), (4, .int (nI x)), (5, .long (nL (by4 f (p + 10)))), (7, .int (nI y)), (8, .int (nI (by2 f (p + 14 + by4 f (p + 10))))), (9, .int (nI (p + 14 + by4 f (p + 10) + 2))), (10, .int (nI (p + 14 + by4 f (p + 10) + 2 + 8 * by2 f (p + 14 + by4 f (p + 10))))), (11, .int (nI (by2 f (p + 14 + by4 f (p + 10) + 2 + 8 * by2 f (p + 14 + by4 f (p + 10)))))), (12, .int (nI i))], [.ref m0], M1)) rfl rfl rfl ?_
            refine ps_st (S' := (129, [(0, .ref m0), (2, .int (nI (p + 6))), (3, .int (nI e)), (4, .int (nI x)), (5, .long (nL (by4 f (p + 10)))), (7, .int (nI y)), (8, .int (nI (by2 f (p + 14 + by4 f (p + 10))))), (9, .int (nI (p + 14 + by4 f (p + 10) + 2))), (10, .int (nI (p + 14 + by4 f (p + 10) + 2 + 8 * by2 f (p + 14 + by4 f (p + 10))))), (11, .int (nI (by2 f (p + 14 + by4 f (p + 10) + 2 + 8 * by2 f (p + 14 + by4 f (p + 10)))))), (12, .int (nI i))], [.int (nI y), .ref m0], M1)) rfl rfl rfl ?_
            refine ps_st (S' := (130, [(0, .ref m0), (2, .int (nI (p + 6))), (3, .int (nI e)), (4, .int (nI x)), (5, .long (nL (by4 f (p + 10)))), (7, .int (nI y)), (8, .int (nI (by2 f (p + 14 + by4 f (p + 10))))), (9, .int (nI (p + 14 + by4 f (p + 10) + 2))), (10, .int (nI (p + 14 + by4 f (p + 10) + 2 + 8 * by2 f (p + 14 + by4 f (p + 10))))), (11, .int (nI (by2 f (p + 14 + by4 f (p + 10) + 2 + 8 * by2 f (p + 14 + by4 f (p + 10)))))), (12, .int (nI i))], [.int 2, .int (nI y), .ref m0], M1)) rfl rfl rfl ?_
            refine ps_st (S' := (131, [(0, .ref m0), (2, .int (nI (p + 6))), (3, .int (nI e)), (4, .int (nI x)), (5, .long (nL (by4 f (p + 10)))), (7, .int (nI y)), (8, .int (nI (by2 f (p + 14 + by4 f (p + 10))))), (9, .int (nI (p + 14 + by4 f (p + 10) + 2))), (10, .int (nI (p + 14 + by4 f (p + 10) + 2 + 8 * by2 f (p + 14 + by4 f (p + 10))))), (11, .int (nI (by2 f (p + 14 + by4 f (p + 10) + 2 + 8 * by2 f (p + 14 + by4 f (p + 10)))))), (12, .int (nI i))], [.int ((nI y) + 2), .ref m0], M1)) rfl rfl rfl ?_
            rw [nI_add1 (p := y) (k := 2) (x := 2) rfl (by omega)]
            show pl _ _ _ (_, [(0, .ref m0), (2, .int (nI (p + 6))), (3, .int (nI e)), (4, .int (nI x)), (5, .long (nL (by4 f (p + 10)))), (7, .int (nI y)), (8, .int (nI (by2 f (p + 14 + by4 f (p + 10))))), (9, .int (nI (p + 14 + by4 f (p + 10) + 2))), (10, .int (nI (p + 14 + by4 f (p + 10) + 2 + 8 * by2 f (p + 14 + by4 f (p + 10))))), (11, .int (nI (by2 f (p + 14 + by4 f (p + 10) + 2 + 8 * by2 f (p + 14 + by4 f (p + 10)))))), (12, .int (nI i))], [.int (nI (y + 2)), .ref m0], M1) _
            refine pl_call (a := [.ref m0, .int (nI (y + 2))]) (rest := []) rfl rfl rfl (rd_u4 (n := n) (f := f) (p := (y + 2)) hR1 hF1 (by omega)) (fun v10 M11 q12 => ?_)
            obtain ⟨rfl, rfl⟩ := q12
            show pl _ _ _ (134, [(0, .ref m0), (2, .int (nI (p + 6))), (3, .int (nI e)), (4, .int (nI x)), (5, .long (nL (by4 f (p + 10)))), (7, .int (nI y)), (8, .int (nI (by2 f (p + 14 + by4 f (p + 10))))), (9, .int (nI (p + 14 + by4 f (p + 10) + 2))), (10, .int (nI (p + 14 + by4 f (p + 10) + 2 + 8 * by2 f (p + 14 + by4 f (p + 10))))), (11, .int (nI (by2 f (p + 14 + by4 f (p + 10) + 2 + 8 * by2 f (p + 14 + by4 f (p + 10)))))), (12, .int (nI i))], [.long (nL (by4 f (y + 2)))], M1) _
            have hu_131 := by4_lt f (y + 2)
            refine ps_st (S' := (135, [(0, .ref m0), (2, .int (nI (p + 6))), (3, .int (nI e)), (4, .int (nI x)), (5, .long (nL (by4 f (p + 10)))), (7, .int (nI y)), (8, .int (nI (by2 f (p + 14 + by4 f (p + 10))))), (9, .int (nI (p + 14 + by4 f (p + 10) + 2))), (10, .int (nI (p + 14 + by4 f (p + 10) + 2 + 8 * by2 f (p + 14 + by4 f (p + 10))))), (11, .int (nI (by2 f (p + 14 + by4 f (p + 10) + 2 + 8 * by2 f (p + 14 + by4 f (p + 10)))))), (12, .int (nI i))], [.int (nI e), .long (nL (by4 f (y + 2)))], M1)) rfl rfl rfl ?_
            refine ps_st (S' := (137, [(0, .ref m0), (2, .int (nI (p + 6))), (3, .int (nI e)), (4, .int (nI x)), (5, .long (nL (by4 f (p + 10)))), (7, .int (nI y)), (8, .int (nI (by2 f (p + 14 + by4 f (p + 10))))), (9, .int (nI (p + 14 + by4 f (p + 10) + 2))), (10, .int (nI (p + 14 + by4 f (p + 10) + 2 + 8 * by2 f (p + 14 + by4 f (p + 10))))), (11, .int (nI (by2 f (p + 14 + by4 f (p + 10) + 2 + 8 * by2 f (p + 14 + by4 f (p + 10)))))), (12, .int (nI i))], [.int (nI y), .int (nI e), .long (nL (by4 f (y + 2)))], M1)) rfl rfl rfl ?_
            refine ps_st (S' := (138, [(0, .ref m0), (2, .int (nI (p + 6))), (3, .int (nI e)), (4, .int (nI x)), (5, .long (nL (by4 f (p + 10)))), (7, .int (nI y)), (8, .int (nI (by2 f (p + 14 + by4 f (p + 10))))), (9, .int (nI (p + 14 + by4 f (p + 10) + 2))), (10, .int (nI (p + 14 + by4 f (p + 10) + 2 + 8 * by2 f (p + 14 + by4 f (p + 10))))), (11, .int (nI (by2 f (p + 14 + by4 f (p + 10) + 2 + 8 * by2 f (p + 14 + by4 f (p + 10)))))), (12, .int (nI i))], [.int ((nI e) - (nI y)), .long (nL (by4 f (y + 2)))], M1)) rfl rfl rfl ?_
            rw [nI_sub1 (p := e) (k := y) (x := (nI y)) rfl (by omega) (by omega)]
            show pl _ _ _ (_, [(0, .ref m0), (2, .int (nI (p + 6))), (3, .int (nI e)), (4, .int (nI x)), (5, .long (nL (by4 f (p + 10)))), (7, .int (nI y)), (8, .int (nI (by2 f (p + 14 + by4 f (p + 10))))), (9, .int (nI (p + 14 + by4 f (p + 10) + 2))), (10, .int (nI (p + 14 + by4 f (p + 10) + 2 + 8 * by2 f (p + 14 + by4 f (p + 10))))), (11, .int (nI (by2 f (p + 14 + by4 f (p + 10) + 2 + 8 * by2 f (p + 14 + by4 f (p + 10)))))), (12, .int (nI i))], [.int (nI (e - y)), .long (nL (by4 f (y + 2)))], M1) _
            refine ps_st (S' := (140, [(0, .ref m0), (2, .int (nI (p + 6))), (3, .int (nI e)), (4, .int (nI x)), (5, .long (nL (by4 f (p + 10)))), (7, .int (nI y)), (8, .int (nI (by2 f (p + 14 + by4 f (p + 10))))), (9, .int (nI (p + 14 + by4 f (p + 10) + 2))), (10, .int (nI (p + 14 + by4 f (p + 10) + 2 + 8 * by2 f (p + 14 + by4 f (p + 10))))), (11, .int (nI (by2 f (p + 14 + by4 f (p + 10) + 2 + 8 * by2 f (p + 14 + by4 f (p + 10)))))), (12, .int (nI i))], [.int 6, .int (nI (e - y)), .long (nL (by4 f (y + 2)))], M1)) rfl rfl rfl ?_
            refine ps_st (S' := (141, [(0, .ref m0), (2, .int (nI (p + 6))), (3, .int (nI e)), (4, .int (nI x)), (5, .long (nL (by4 f (p + 10)))), (7, .int (nI y)), (8, .int (nI (by2 f (p + 14 + by4 f (p + 10))))), (9, .int (nI (p + 14 + by4 f (p + 10) + 2))), (10, .int (nI (p + 14 + by4 f (p + 10) + 2 + 8 * by2 f (p + 14 + by4 f (p + 10))))), (11, .int (nI (by2 f (p + 14 + by4 f (p + 10) + 2 + 8 * by2 f (p + 14 + by4 f (p + 10)))))), (12, .int (nI i))], [.int ((nI (e - y)) - 6), .long (nL (by4 f (y + 2)))], M1)) rfl rfl rfl ?_
            rw [nI_sub1 (p := e - y) (k := 6) (x := 6) rfl (by omega) (by omega)]
            show pl _ _ _ (_, [(0, .ref m0), (2, .int (nI (p + 6))), (3, .int (nI e)), (4, .int (nI x)), (5, .long (nL (by4 f (p + 10)))), (7, .int (nI y)), (8, .int (nI (by2 f (p + 14 + by4 f (p + 10))))), (9, .int (nI (p + 14 + by4 f (p + 10) + 2))), (10, .int (nI (p + 14 + by4 f (p + 10) + 2 + 8 * by2 f (p + 14 + by4 f (p + 10))))), (11, .int (nI (by2 f (p + 14 + by4 f (p + 10) + 2 + 8 * by2 f (p + 14 + by4 f (p + 10)))))), (12, .int (nI i))], [.int (nI ((e - y) - 6)), .long (nL (by4 f (y + 2)))], M1) _
            refine ps_st (S' := (142, [(0, .ref m0), (2, .int (nI (p + 6))), (3, .int (nI e)), (4, .int (nI x)), (5, .long (nL (by4 f (p + 10)))), (7, .int (nI y)), (8, .int (nI (by2 f (p + 14 + by4 f (p + 10))))), (9, .int (nI (p + 14 + by4 f (p + 10) + 2))), (10, .int (nI (p + 14 + by4 f (p + 10) + 2 + 8 * by2 f (p + 14 + by4 f (p + 10))))), (11, .int (nI (by2 f (p + 14 + by4 f (p + 10) + 2 + 8 * by2 f (p + 14 + by4 f (p + 10)))))), (12, .int (nI i))], [.long (Int32.toInt64 (nI ((e - y) - 6))), .long (nL (by4 f (y + 2)))], M1)) rfl rfl rfl ?_
            rw [i2l_nL (p := (e - y) - 6) (by omega)]
            show pl _ _ _ (_, [(0, .ref m0), (2, .int (nI (p + 6))), (3, .int (nI e)), (4, .int (nI x)), (5, .long (nL (by4 f (p + 10)))), (7, .int (nI y)), (8, .int (nI (by2 f (p + 14 + by4 f (p + 10))))), (9, .int (nI (p + 14 + by4 f (p + 10) + 2))), (10, .int (nI (p + 14 + by4 f (p + 10) + 2 + 8 * by2 f (p + 14 + by4 f (p + 10))))), (11, .int (nI (by2 f (p + 14 + by4 f (p + 10) + 2 + 8 * by2 f (p + 14 + by4 f (p + 10)))))), (12, .int (nI i))], [.long (nL ((e - y) - 6)), .long (nL (by4 f (y + 2)))], M1) _
            refine ps_st (S' := (143, [(0, .ref m0), (2, .int (nI (p + 6))), (3, .int (nI e)), (4, .int (nI x)), (5, .long (nL (by4 f (p + 10)))), (7, .int (nI y)), (8, .int (nI (by2 f (p + 14 + by4 f (p + 10))))), (9, .int (nI (p + 14 + by4 f (p + 10) + 2))), (10, .int (nI (p + 14 + by4 f (p + 10) + 2 + 8 * by2 f (p + 14 + by4 f (p + 10))))), (11, .int (nI (by2 f (p + 14 + by4 f (p + 10) + 2 + 8 * by2 f (p + 14 + by4 f (p + 10)))))), (12, .int (nI i))], [.int (lg_cmp (nL (by4 f (y + 2))) (nL ((e - y) - 6)))], M1)) rfl rfl rfl ?_
            refine ps_if (S1 := (149, [(0, .ref m0), (2, .int (nI (p + 6))), (3, .int (nI e)), (4, .int (nI x)), (5, .long (nL (by4 f (p + 10)))), (7, .int (nI y)), (8, .int (nI (by2 f (p + 14 + by4 f (p + 10))))), (9, .int (nI (p + 14 + by4 f (p + 10) + 2))), (10, .int (nI (p + 14 + by4 f (p + 10) + 2 + 8 * by2 f (p + 14 + by4 f (p + 10))))), (11, .int (nI (by2 f (p + 14 + by4 f (p + 10) + 2 + 8 * by2 f (p + 14 + by4 f (p + 10)))))), (12, .int (nI i))], [], M1)) (S2 := (146, [], [], M1)) rfl rfl rfl (fun c_143 => ?_) (fun c_143 => ?_)
            · have n_143 : by4 f (y + 2) ≤ (e - y) - 6 := (cL_le (p := by4 f (y + 2)) (k := (e - y) - 6) (x := (nL (by4 f (y + 2)))) (y := (nL ((e - y) - 6))) rfl rfl (by omega) (by omega)).mp (of_decide_eq_true c_143)
              refine ps_st (S' := (151, [(0, .ref m0), (2, .int (nI (p + 6))), (3, .int (nI e)), (4, .int (nI x)), (5, .long (nL (by4 f (p + 10)))), (7, .int (nI y)), (8, .int (nI (by2 f (p + 14 + by4 f (p + 10))))), (9, .int (nI (p + 14 + by4 f (p + 10) + 2))), (10, .int (nI (p + 14 + by4 f (p + 10) + 2 + 8 * by2 f (p + 14 + by4 f (p + 10))))), (11, .int (nI (by2 f (p + 14 + by4 f (p + 10) + 2 + 8 * by2 f (p + 14 + by4 f (p + 10)))))), (12, .int (nI i))], [.int (nI y)], M1)) rfl rfl rfl ?_
              refine ps_st (S' := (153, [(0, .ref m0), (2, .int (nI (p + 6))), (3, .int (nI e)), (4, .int (nI x)), (5, .long (nL (by4 f (p + 10)))), (7, .int (nI y)), (8, .int (nI (by2 f (p + 14 + by4 f (p + 10))))), (9, .int (nI (p + 14 + by4 f (p + 10) + 2))), (10, .int (nI (p + 14 + by4 f (p + 10) + 2 + 8 * by2 f (p + 14 + by4 f (p + 10))))), (11, .int (nI (by2 f (p + 14 + by4 f (p + 10) + 2 + 8 * by2 f (p + 14 + by4 f (p + 10)))))), (12, .int (nI i))], [.int 6, .int (nI y)], M1)) rfl rfl rfl ?_
              refine ps_st (S' := (154, [(0, .ref m0), (2, .int (nI (p + 6))), (3, .int (nI e)), (4, .int (nI x)), (5, .long (nL (by4 f (p + 10)))), (7, .int (nI y)), (8, .int (nI (by2 f (p + 14 + by4 f (p + 10))))), (9, .int (nI (p + 14 + by4 f (p + 10) + 2))), (10, .int (nI (p + 14 + by4 f (p + 10) + 2 + 8 * by2 f (p + 14 + by4 f (p + 10))))), (11, .int (nI (by2 f (p + 14 + by4 f (p + 10) + 2 + 8 * by2 f (p + 14 + by4 f (p + 10)))))), (12, .int (nI i))], [.ref m0, .int 6, .int (nI y)], M1)) rfl rfl rfl ?_
              refine ps_st (S' := (156, [(0, .ref m0), (2, .int (nI (p + 6))), (3, .int (nI e)), (4, .int (nI x)), (5, .long (nL (by4 f (p + 10)))), (7, .int (nI y)), (8, .int (nI (by2 f (p + 14 + by4 f (p + 10))))), (9, .int (nI (p + 14 + by4 f (p + 10) + 2))), (10, .int (nI (p + 14 + by4 f (p + 10) + 2 + 8 * by2 f (p + 14 + by4 f (p + 10))))), (11, .int (nI (by2 f (p + 14 + by4 f (p + 10) + 2 + 8 * by2 f (p + 14 + by4 f (p + 10)))))), (12, .int (nI i))], [.int (nI y), .ref m0, .int 6, .int (nI y)], M1)) rfl rfl rfl ?_
              refine ps_st (S' := (157, [(0, .ref m0), (2, .int (nI (p + 6))), (3, .int (nI e)), (4, .int (nI x)), (5, .long (nL (by4 f (p + 10)))), (7, .int (nI y)), (8, .int (nI (by2 f (p + 14 + by4 f (p + 10))))), (9, .int (nI (p + 14 + by4 f (p + 10) + 2))), (10, .int (nI (p + 14 + by4 f (p + 10) + 2 + 8 * by2 f (p + 14 + by4 f (p + 10))))), (11, .int (nI (by2 f (p + 14 + by4 f (p + 10) + 2 + 8 * by2 f (p + 14 + by4 f (p + 10)))))), (12, .int (nI i))], [.int 2, .int (nI y), .ref m0, .int 6, .int (nI y)], M1)) rfl rfl rfl ?_
              refine ps_st (S' := (158, [(0, .ref m0), (2, .int (nI (p + 6))), (3, .int (nI e)), (4, .int (nI x)), (5, .long (nL (by4 f (p + 10)))), (7, .int (nI y)), (8, .int (nI (by2 f (p + 14 + by4 f (p + 10))))), (9, .int (nI (p + 14 + by4 f (p + 10) + 2))), (10, .int (nI (p + 14 + by4 f (p + 10) + 2 + 8 * by2 f (p + 14 + by4 f (p + 10))))), (11, .int (nI (by2 f (p + 14 + by4 f (p + 10) + 2 + 8 * by2 f (p + 14 + by4 f (p + 10)))))), (12, .int (nI i))], [.int ((nI y) + 2), .ref m0, .int 6, .int (nI y)], M1)) rfl rfl rfl ?_
              rw [nI_add1 (p := y) (k := 2) (x := 2) rfl (by omega)]
              show pl _ _ _ (_, [(0, .ref m0), (2, .int (nI (p + 6))), (3, .int (nI e)), (4, .int (nI x)), (5, .long (nL (by4 f (p + 10)))), (7, .int (nI y)), (8, .int (nI (by2 f (p + 14 + by4 f (p + 10))))), (9, .int (nI (p + 14 + by4 f (p + 10) + 2))), (10, .int (nI (p + 14 + by4 f (p + 10) + 2 + 8 * by2 f (p + 14 + by4 f (p + 10))))), (11, .int (nI (by2 f (p + 14 + by4 f (p + 10) + 2 + 8 * by2 f (p + 14 + by4 f (p + 10)))))), (12, .int (nI i))], [.int (nI (y + 2)), .ref m0, .int 6, .int (nI y)], M1) _
              refine pl_call (a := [.ref m0, .int (nI (y + 2))]) (rest := [.int 6, .int (nI y)]) rfl rfl rfl (rd_u4 (n := n) (f := f) (p := (y + 2)) hR1 hF1 (by omega)) (fun v13 M14 q15 => ?_)
              obtain ⟨rfl, rfl⟩ := q15
              show pl _ _ _ (161, [(0, .ref m0), (2, .int (nI (p + 6))), (3, .int (nI e)), (4, .int (nI x)), (5, .long (nL (by4 f (p + 10)))), (7, .int (nI y)), (8, .int (nI (by2 f (p + 14 + by4 f (p + 10))))), (9, .int (nI (p + 14 + by4 f (p + 10) + 2))), (10, .int (nI (p + 14 + by4 f (p + 10) + 2 + 8 * by2 f (p + 14 + by4 f (p + 10))))), (11, .int (nI (by2 f (p + 14 + by4 f (p + 10) + 2 + 8 * by2 f (p + 14 + by4 f (p + 10)))))), (12, .int (nI i))], [.long (nL (by4 f (y + 2))), .int 6, .int (nI y)], M1) _
              have hu_158 := by4_lt f (y + 2)
              refine ps_st (S' := (162, [(0, .ref m0), (2, .int (nI (p + 6))), (3, .int (nI e)), (4, .int (nI x)), (5, .long (nL (by4 f (p + 10)))), (7, .int (nI y)), (8, .int (nI (by2 f (p + 14 + by4 f (p + 10))))), (9, .int (nI (p + 14 + by4 f (p + 10) + 2))), (10, .int (nI (p + 14 + by4 f (p + 10) + 2 + 8 * by2 f (p + 14 + by4 f (p + 10))))), (11, .int (nI (by2 f (p + 14 + by4 f (p + 10) + 2 + 8 * by2 f (p + 14 + by4 f (p + 10)))))), (12, .int (nI i))], [.int (Int64.toInt32 (nL (by4 f (y + 2)))), .int 6, .int (nI y)], M1)) rfl rfl rfl ?_
              rw [l2i_nL (p := by4 f (y + 2)) (by omega)]
              show pl _ _ _ (_, [(0, .ref m0), (2, .int (nI (p + 6))), (3, .int (nI e)), (4, .int (nI x)), (5, .long (nL (by4 f (p + 10)))), (7, .int (nI y)), (8, .int (nI (by2 f (p + 14 + by4 f (p + 10))))), (9, .int (nI (p + 14 + by4 f (p + 10) + 2))), (10, .int (nI (p + 14 + by4 f (p + 10) + 2 + 8 * by2 f (p + 14 + by4 f (p + 10))))), (11, .int (nI (by2 f (p + 14 + by4 f (p + 10) + 2 + 8 * by2 f (p + 14 + by4 f (p + 10)))))), (12, .int (nI i))], [.int (nI (by4 f (y + 2))), .int 6, .int (nI y)], M1) _
              refine ps_st (S' := (163, [(0, .ref m0), (2, .int (nI (p + 6))), (3, .int (nI e)), (4, .int (nI x)), (5, .long (nL (by4 f (p + 10)))), (7, .int (nI y)), (8, .int (nI (by2 f (p + 14 + by4 f (p + 10))))), (9, .int (nI (p + 14 + by4 f (p + 10) + 2))), (10, .int (nI (p + 14 + by4 f (p + 10) + 2 + 8 * by2 f (p + 14 + by4 f (p + 10))))), (11, .int (nI (by2 f (p + 14 + by4 f (p + 10) + 2 + 8 * by2 f (p + 14 + by4 f (p + 10)))))), (12, .int (nI i))], [.int (6 + (nI (by4 f (y + 2)))), .int (nI y)], M1)) rfl rfl rfl ?_
              rw [nI_add2 (p := 6) (k := by4 f (y + 2)) (x := 6) (y := (nI (by4 f (y + 2)))) rfl rfl (by omega)]
              show pl _ _ _ (_, [(0, .ref m0), (2, .int (nI (p + 6))), (3, .int (nI e)), (4, .int (nI x)), (5, .long (nL (by4 f (p + 10)))), (7, .int (nI y)), (8, .int (nI (by2 f (p + 14 + by4 f (p + 10))))), (9, .int (nI (p + 14 + by4 f (p + 10) + 2))), (10, .int (nI (p + 14 + by4 f (p + 10) + 2 + 8 * by2 f (p + 14 + by4 f (p + 10))))), (11, .int (nI (by2 f (p + 14 + by4 f (p + 10) + 2 + 8 * by2 f (p + 14 + by4 f (p + 10)))))), (12, .int (nI i))], [.int (nI (6 + by4 f (y + 2))), .int (nI y)], M1) _
              refine ps_st (S' := (164, [(0, .ref m0), (2, .int (nI (p + 6))), (3, .int (nI e)), (4, .int (nI x)), (5, .long (nL (by4 f (p + 10)))), (7, .int (nI y)), (8, .int (nI (by2 f (p + 14 + by4 f (p + 10))))), (9, .int (nI (p + 14 + by4 f (p + 10) + 2))), (10, .int (nI (p + 14 + by4 f (p + 10) + 2 + 8 * by2 f (p + 14 + by4 f (p + 10))))), (11, .int (nI (by2 f (p + 14 + by4 f (p + 10) + 2 + 8 * by2 f (p + 14 + by4 f (p + 10)))))), (12, .int (nI i))], [.int ((nI y) + (nI (6 + by4 f (y + 2))))], M1)) rfl rfl rfl ?_
              rw [nI_add1 (p := y) (k := 6 + by4 f (y + 2)) (x := (nI (6 + by4 f (y + 2)))) rfl (by omega)]
              rw [show nI (y + (6 + by4 f (y + 2))) = nI (y + 6 + by4 f (y + 2)) from congrArg nI (by omega)]
              show pl _ _ _ (_, [(0, .ref m0), (2, .int (nI (p + 6))), (3, .int (nI e)), (4, .int (nI x)), (5, .long (nL (by4 f (p + 10)))), (7, .int (nI y)), (8, .int (nI (by2 f (p + 14 + by4 f (p + 10))))), (9, .int (nI (p + 14 + by4 f (p + 10) + 2))), (10, .int (nI (p + 14 + by4 f (p + 10) + 2 + 8 * by2 f (p + 14 + by4 f (p + 10))))), (11, .int (nI (by2 f (p + 14 + by4 f (p + 10) + 2 + 8 * by2 f (p + 14 + by4 f (p + 10)))))), (12, .int (nI i))], [.int (nI (y + 6 + by4 f (y + 2)))], M1) _
              refine ps_st (S' := (166, [(7, .int (nI (y + 6 + by4 f (y + 2)))), (0, .ref m0), (2, .int (nI (p + 6))), (3, .int (nI e)), (4, .int (nI x)), (5, .long (nL (by4 f (p + 10)))), (8, .int (nI (by2 f (p + 14 + by4 f (p + 10))))), (9, .int (nI (p + 14 + by4 f (p + 10) + 2))), (10, .int (nI (p + 14 + by4 f (p + 10) + 2 + 8 * by2 f (p + 14 + by4 f (p + 10))))), (11, .int (nI (by2 f (p + 14 + by4 f (p + 10) + 2 + 8 * by2 f (p + 14 + by4 f (p + 10)))))), (12, .int (nI i))], [], M1)) rfl rfl rfl ?_
              refine ps_st (S' := (169, [(12, .int ((nI i) + 1)), (7, .int (nI (y + 6 + by4 f (y + 2)))), (0, .ref m0), (2, .int (nI (p + 6))), (3, .int (nI e)), (4, .int (nI x)), (5, .long (nL (by4 f (p + 10)))), (8, .int (nI (by2 f (p + 14 + by4 f (p + 10))))), (9, .int (nI (p + 14 + by4 f (p + 10) + 2))), (10, .int (nI (p + 14 + by4 f (p + 10) + 2 + 8 * by2 f (p + 14 + by4 f (p + 10))))), (11, .int (nI (by2 f (p + 14 + by4 f (p + 10) + 2 + 8 * by2 f (p + 14 + by4 f (p + 10))))))], [], M1)) rfl rfl rfl ?_
              rw [nI_add1 (p := i) (k := 1) (x := 1) rfl (by omega)]
              show pl _ _ _ (_, [(12, .int (nI (i + 1))), (7, .int (nI (y + 6 + by4 f (y + 2)))), (0, .ref m0), (2, .int (nI (p + 6))), (3, .int (nI e)), (4, .int (nI x)), (5, .long (nL (by4 f (p + 10)))), (8, .int (nI (by2 f (p + 14 + by4 f (p + 10))))), (9, .int (nI (p + 14 + by4 f (p + 10) + 2))), (10, .int (nI (p + 14 + by4 f (p + 10) + 2 + 8 * by2 f (p + 14 + by4 f (p + 10))))), (11, .int (nI (by2 f (p + 14 + by4 f (p + 10) + 2 + 8 * by2 f (p + 14 + by4 f (p + 10))))))], [], M1) _
              refine ps_st (S' := (110, [(0, .ref m0), (2, .int (nI (p + 6))), (3, .int (nI e)), (4, .int (nI x)), (5, .long (nL (by4 f (p + 10)))), (7, .int (nI (y + 6 + by4 f (y + 2)))), (8, .int (nI (by2 f (p + 14 + by4 f (p + 10))))), (9, .int (nI (p + 14 + by4 f (p + 10) + 2))), (10, .int (nI (p + 14 + by4 f (p + 10) + 2 + 8 * by2 f (p + 14 + by4 f (p + 10))))), (11, .int (nI (by2 f (p + 14 + by4 f (p + 10) + 2 + 8 * by2 f (p + 14 + by4 f (p + 10)))))), (12, .int (nI (i + 1)))], [], M1)) rfl rfl rfl ?_
              exact ih.1 (i + 1) (y + 6 + by4 f (y + 2)) M1 I1 R1 hR1 hEI1 hER1 hl51 hl52 hl53 hF1 hY1 hP1 hK1 hW1 (hr) (hb) (by omega) (by omega) (by
                  rw [← hg, s_atE_st (i := i) (p := y) (by omega), if_neg (by omega), if_neg (by omega)])
            · have n_143 : ¬ (by4 f (y + 2) ≤ (e - y) - 6) := fun h9 => of_decide_eq_false c_143 ((cL_le (p := by4 f (y + 2)) (k := (e - y) - 6) (x := (nL (by4 f (y + 2)))) (y := (nL ((e - y) - 6))) rfl rfl (by omega) (by omega)).mpr h9)
              refine ps_st (S' := (148, [], [.int 30], M1)) rfl rfl rfl ?_
              exact ps_ret rfl rfl (Or.inl ⟨I1, R1, by
                  rw [cdE_of]
                  rw [if_neg (by omega), if_neg (by omega), if_neg (by omega), ← hg]
                  rw [s_atE_st (i := i) (p := y) (by omega), if_neg (by omega), if_pos (by omega)]
                  exact (fun h9 => (by cases h9)), rfl, hR1, hEI1, hER1⟩)
      · skip
        intro i M1 I1 R1 hR1 hEI1 hER1 hl51 hl52 hl53 hF1 hY1 hP1 hK1 hW1 hr hb hce h41 h42 hi hw9
        have hn := hF1.1
        have hu9 := by2_lt f (p + 14 + by4 f (p + 10))
        have hu8 := by2_lt f (p + 14 + by4 f (p + 10) + 2 + 8 * by2 f (p + 14 + by4 f (p + 10)))
        have htl := hY1.1.2.2.1
        refine ps_st1 (S' := (252, [(0, .ref m0), (2, .int (nI (p + 6))), (4, .int (nI x)), (5, .long (nL (by4 f (p + 10)))), (8, .int (nI (by2 f (p + 14 + by4 f (p + 10))))), (9, .int (nI (p + 14 + by4 f (p + 10) + 2))), (10, .int (nI (p + 14 + by4 f (p + 10) + 2 + 8 * by2 f (p + 14 + by4 f (p + 10))))), (13, .int (nI i))], [.int (nI i)], M1)) rfl rfl rfl ?_
        refine ps_st (S' := (254, [(0, .ref m0), (2, .int (nI (p + 6))), (4, .int (nI x)), (5, .long (nL (by4 f (p + 10)))), (8, .int (nI (by2 f (p + 14 + by4 f (p + 10))))), (9, .int (nI (p + 14 + by4 f (p + 10) + 2))), (10, .int (nI (p + 14 + by4 f (p + 10) + 2 + 8 * by2 f (p + 14 + by4 f (p + 10))))), (13, .int (nI i))], [.int (nI (by2 f (p + 14 + by4 f (p + 10)))), .int (nI i)], M1)) rfl rfl rfl ?_
        refine ps_if2 (S1 := (353, [(0, .ref m0), (2, .int (nI (p + 6))), (4, .int (nI x)), (5, .long (nL (by4 f (p + 10)))), (8, .int (nI (by2 f (p + 14 + by4 f (p + 10))))), (9, .int (nI (p + 14 + by4 f (p + 10) + 2))), (10, .int (nI (p + 14 + by4 f (p + 10) + 2 + 8 * by2 f (p + 14 + by4 f (p + 10))))), (13, .int (nI i))], [], M1)) (S2 := (257, [(0, .ref m0), (2, .int (nI (p + 6))), (4, .int (nI x)), (5, .long (nL (by4 f (p + 10)))), (8, .int (nI (by2 f (p + 14 + by4 f (p + 10))))), (9, .int (nI (p + 14 + by4 f (p + 10) + 2))), (10, .int (nI (p + 14 + by4 f (p + 10) + 2 + 8 * by2 f (p + 14 + by4 f (p + 10))))), (13, .int (nI i))], [], M1)) rfl rfl rfl (fun c_254 => ?_) (fun c_254 => ?_)
        · have c_254 : (nI (by2 f (p + 14 + by4 f (p + 10)))) ≤ (nI i) := of_decide_eq_true c_254
          have n_254 : by2 f (p + 14 + by4 f (p + 10)) ≤ i := (le_nI (p := by2 f (p + 14 + by4 f (p + 10))) (n := i) (Nat.lt_trans (by2_lt _ _) (by decide)) (by omega)).mp c_254
          refine ps_st (S' := (354, [(0, .ref m0), (2, .int (nI (p + 6))), (4, .int (nI x)), (5, .long (nL (by4 f (p + 10)))), (8, .int (nI (by2 f (p + 14 + by4 f (p + 10))))), (9, .int (nI (p + 14 + by4 f (p + 10) + 2))), (10, .int (nI (p + 14 + by4 f (p + 10) + 2 + 8 * by2 f (p + 14 + by4 f (p + 10))))), (13, .int (nI i))], [.ref m0], M1)) rfl rfl rfl ?_
          refine pr_ref (j := 39) (S' := (357, [(0, .ref m0), (2, .int (nI (p + 6))), (4, .int (nI x)), (5, .long (nL (by4 f (p + 10)))), (8, .int (nI (by2 f (p + 14 + by4 f (p + 10))))), (9, .int (nI (p + 14 + by4 f (p + 10) + 2))), (10, .int (nI (p + 14 + by4 f (p + 10) + 2 + 8 * by2 f (p + 14 + by4 f (p + 10))))), (13, .int (nI i))], [.ref (q 39)], M1)) rfl hR1 rfl rfl ?_
          refine ps_st (S' := (359, [(0, .ref m0), (2, .int (nI (p + 6))), (4, .int (nI x)), (5, .long (nL (by4 f (p + 10)))), (8, .int (nI (by2 f (p + 14 + by4 f (p + 10))))), (9, .int (nI (p + 14 + by4 f (p + 10) + 2))), (10, .int (nI (p + 14 + by4 f (p + 10) + 2 + 8 * by2 f (p + 14 + by4 f (p + 10))))), (13, .int (nI i))], [.int (nI x), .ref (q 39)], M1)) rfl rfl rfl ?_
          refine ps_st (S' := (360, [(0, .ref m0), (2, .int (nI (p + 6))), (4, .int (nI x)), (5, .long (nL (by4 f (p + 10)))), (8, .int (nI (by2 f (p + 14 + by4 f (p + 10))))), (9, .int (nI (p + 14 + by4 f (p + 10) + 2))), (10, .int (nI (p + 14 + by4 f (p + 10) + 2 + 8 * by2 f (p + 14 + by4 f (p + 10))))), (13, .int (nI i))], [.ref m0, .int (nI x), .ref (q 39)], M1)) rfl rfl rfl ?_
          refine ps_st (S' := (361, [(0, .ref m0), (2, .int (nI (p + 6))), (4, .int (nI x)), (5, .long (nL (by4 f (p + 10)))), (8, .int (nI (by2 f (p + 14 + by4 f (p + 10))))), (9, .int (nI (p + 14 + by4 f (p + 10) + 2))), (10, .int (nI (p + 14 + by4 f (p + 10) + 2 + 8 * by2 f (p + 14 + by4 f (p + 10))))), (13, .int (nI i))], [.int (nI (p + 6)), .ref m0, .int (nI x), .ref (q 39)], M1)) rfl rfl rfl ?_
          refine pl_call (a := [.ref m0, .int (nI (p + 6))]) (rest := [.int (nI x), .ref (q 39)]) rfl rfl rfl (rd_u2 (n := n) (f := f) (p := (p + 6)) hR1 hF1 (by omega)) (fun v16 M17 q18 => ?_)
          obtain ⟨rfl, rfl⟩ := q18
          show pl _ _ _ (364, [(0, .ref m0), (2, .int (nI (p + 6))), (4, .int (nI x)), (5, .long (nL (by4 f (p + 10)))), (8, .int (nI (by2 f (p + 14 + by4 f (p + 10))))), (9, .int (nI (p + 14 + by4 f (p + 10) + 2))), (10, .int (nI (p + 14 + by4 f (p + 10) + 2 + 8 * by2 f (p + 14 + by4 f (p + 10))))), (13, .int (nI i))], [.int (nI (by2 f (p + 6))), .int (nI x), .ref (q 39)], M1) _
          have hu_361 := by2_lt f (p + 6)
          refine pr_st (a := 39) (j := x) rfl hR1 rfl (by omega) (fun M19 R20 i1_364 hR21 hS22 => ?_)
          have hF_23 := hF1.mono (fun _ _ => rfl) (rRx hS22 (by decide))
          have hY_24 := hY1.mono (fun _ _ => rfl) (rRx hS22 (by decide))
          have hP_25 := hP1.mono (fun _ _ => rfl) (rRx hS22 (by decide))
          have hK_26 := hK1.mono (fun _ _ => rfl) (rRx hS22 (by decide))
          have hER27 := hER1.st hS22 (by decide)
          show pl _ _ _ (365, [(0, .ref m0), (2, .int (nI (p + 6))), (4, .int (nI x)), (5, .long (nL (by4 f (p + 10)))), (8, .int (nI (by2 f (p + 14 + by4 f (p + 10))))), (9, .int (nI (p + 14 + by4 f (p + 10) + 2))), (10, .int (nI (p + 14 + by4 f (p + 10) + 2 + 8 * by2 f (p + 14 + by4 f (p + 10))))), (13, .int (nI i))], [], M19) _
          refine ps_st (S' := (366, [(0, .ref m0), (2, .int (nI (p + 6))), (4, .int (nI x)), (5, .long (nL (by4 f (p + 10)))), (8, .int (nI (by2 f (p + 14 + by4 f (p + 10))))), (9, .int (nI (p + 14 + by4 f (p + 10) + 2))), (10, .int (nI (p + 14 + by4 f (p + 10) + 2 + 8 * by2 f (p + 14 + by4 f (p + 10))))), (13, .int (nI i))], [.ref m0], M19)) rfl rfl rfl ?_
          refine pr_ref (j := 40) (S' := (369, [(0, .ref m0), (2, .int (nI (p + 6))), (4, .int (nI x)), (5, .long (nL (by4 f (p + 10)))), (8, .int (nI (by2 f (p + 14 + by4 f (p + 10))))), (9, .int (nI (p + 14 + by4 f (p + 10) + 2))), (10, .int (nI (p + 14 + by4 f (p + 10) + 2 + 8 * by2 f (p + 14 + by4 f (p + 10))))), (13, .int (nI i))], [.ref (q 40)], M19)) rfl hR21 rfl rfl ?_
          refine ps_st (S' := (371, [(0, .ref m0), (2, .int (nI (p + 6))), (4, .int (nI x)), (5, .long (nL (by4 f (p + 10)))), (8, .int (nI (by2 f (p + 14 + by4 f (p + 10))))), (9, .int (nI (p + 14 + by4 f (p + 10) + 2))), (10, .int (nI (p + 14 + by4 f (p + 10) + 2 + 8 * by2 f (p + 14 + by4 f (p + 10))))), (13, .int (nI i))], [.int (nI x), .ref (q 40)], M19)) rfl rfl rfl ?_
          refine ps_st (S' := (372, [(0, .ref m0), (2, .int (nI (p + 6))), (4, .int (nI x)), (5, .long (nL (by4 f (p + 10)))), (8, .int (nI (by2 f (p + 14 + by4 f (p + 10))))), (9, .int (nI (p + 14 + by4 f (p + 10) + 2))), (10, .int (nI (p + 14 + by4 f (p + 10) + 2 + 8 * by2 f (p + 14 + by4 f (p + 10))))), (13, .int (nI i))], [.ref m0, .int (nI x), .ref (q 40)], M19)) rfl rfl rfl ?_
          refine ps_st (S' := (373, [(0, .ref m0), (2, .int (nI (p + 6))), (4, .int (nI x)), (5, .long (nL (by4 f (p + 10)))), (8, .int (nI (by2 f (p + 14 + by4 f (p + 10))))), (9, .int (nI (p + 14 + by4 f (p + 10) + 2))), (10, .int (nI (p + 14 + by4 f (p + 10) + 2 + 8 * by2 f (p + 14 + by4 f (p + 10))))), (13, .int (nI i))], [.int (nI (p + 6)), .ref m0, .int (nI x), .ref (q 40)], M19)) rfl rfl rfl ?_
          refine ps_st (S' := (374, [(0, .ref m0), (2, .int (nI (p + 6))), (4, .int (nI x)), (5, .long (nL (by4 f (p + 10)))), (8, .int (nI (by2 f (p + 14 + by4 f (p + 10))))), (9, .int (nI (p + 14 + by4 f (p + 10) + 2))), (10, .int (nI (p + 14 + by4 f (p + 10) + 2 + 8 * by2 f (p + 14 + by4 f (p + 10))))), (13, .int (nI i))], [.int 2, .int (nI (p + 6)), .ref m0, .int (nI x), .ref (q 40)], M19)) rfl rfl rfl ?_
          refine ps_st (S' := (375, [(0, .ref m0), (2, .int (nI (p + 6))), (4, .int (nI x)), (5, .long (nL (by4 f (p + 10)))), (8, .int (nI (by2 f (p + 14 + by4 f (p + 10))))), (9, .int (nI (p + 14 + by4 f (p + 10) + 2))), (10, .int (nI (p + 14 + by4 f (p + 10) + 2 + 8 * by2 f (p + 14 + by4 f (p + 10))))), (13, .int (nI i))], [.int ((nI (p + 6)) + 2), .ref m0, .int (nI x), .ref (q 40)], M19)) rfl rfl rfl ?_
          rw [nI_add1 (p := p + 6) (k := 2) (x := 2) rfl (by omega)]
          show pl _ _ _ (_, [(0, .ref m0), (2, .int (nI (p + 6))), (4, .int (nI x)), (5, .long (nL (by4 f (p + 10)))), (8, .int (nI (by2 f (p + 14 + by4 f (p + 10))))), (9, .int (nI (p + 14 + by4 f (p + 10) + 2))), (10, .int (nI (p + 14 + by4 f (p + 10) + 2 + 8 * by2 f (p + 14 + by4 f (p + 10))))), (13, .int (nI i))], [.int (nI (p + 8)), .ref m0, .int (nI x), .ref (q 40)], M19) _
          refine pl_call (a := [.ref m0, .int (nI (p + 8))]) (rest := [.int (nI x), .ref (q 40)]) rfl rfl rfl (rd_u2 (n := n) (f := f) (p := (p + 8)) hR21 hF_23 (by omega)) (fun v28 M29 q30 => ?_)
          obtain ⟨rfl, rfl⟩ := q30
          show pl _ _ _ (378, [(0, .ref m0), (2, .int (nI (p + 6))), (4, .int (nI x)), (5, .long (nL (by4 f (p + 10)))), (8, .int (nI (by2 f (p + 14 + by4 f (p + 10))))), (9, .int (nI (p + 14 + by4 f (p + 10) + 2))), (10, .int (nI (p + 14 + by4 f (p + 10) + 2 + 8 * by2 f (p + 14 + by4 f (p + 10))))), (13, .int (nI i))], [.int (nI (by2 f (p + 8))), .int (nI x), .ref (q 40)], M19) _
          have hu_375 := by2_lt f (p + 8)
          refine pr_st (a := 40) (j := x) rfl hR21 rfl (by omega) (fun M31 R32 i1_378 hR33 hS34 => ?_)
          have hF_35 := hF_23.mono (fun _ _ => rfl) (rRx hS34 (by decide))
          have hY_36 := hY_24.mono (fun _ _ => rfl) (rRx hS34 (by decide))
          have hP_37 := hP_25.mono (fun _ _ => rfl) (rRx hS34 (by decide))
          have hK_38 := hK_26.mono (fun _ _ => rfl) (rRx hS34 (by decide))
          have hER39 := hER27.st hS34 (by decide)
          show pl _ _ _ (379, [(0, .ref m0), (2, .int (nI (p + 6))), (4, .int (nI x)), (5, .long (nL (by4 f (p + 10)))), (8, .int (nI (by2 f (p + 14 + by4 f (p + 10))))), (9, .int (nI (p + 14 + by4 f (p + 10) + 2))), (10, .int (nI (p + 14 + by4 f (p + 10) + 2 + 8 * by2 f (p + 14 + by4 f (p + 10))))), (13, .int (nI i))], [], M31) _
          refine ps_st (S' := (380, [(0, .ref m0), (2, .int (nI (p + 6))), (4, .int (nI x)), (5, .long (nL (by4 f (p + 10)))), (8, .int (nI (by2 f (p + 14 + by4 f (p + 10))))), (9, .int (nI (p + 14 + by4 f (p + 10) + 2))), (10, .int (nI (p + 14 + by4 f (p + 10) + 2 + 8 * by2 f (p + 14 + by4 f (p + 10))))), (13, .int (nI i))], [.ref m0], M31)) rfl rfl rfl ?_
          refine pr_ref (j := 38) (S' := (383, [(0, .ref m0), (2, .int (nI (p + 6))), (4, .int (nI x)), (5, .long (nL (by4 f (p + 10)))), (8, .int (nI (by2 f (p + 14 + by4 f (p + 10))))), (9, .int (nI (p + 14 + by4 f (p + 10) + 2))), (10, .int (nI (p + 14 + by4 f (p + 10) + 2 + 8 * by2 f (p + 14 + by4 f (p + 10))))), (13, .int (nI i))], [.ref (q 38)], M31)) rfl hR33 rfl rfl ?_
          refine ps_st (S' := (385, [(0, .ref m0), (2, .int (nI (p + 6))), (4, .int (nI x)), (5, .long (nL (by4 f (p + 10)))), (8, .int (nI (by2 f (p + 14 + by4 f (p + 10))))), (9, .int (nI (p + 14 + by4 f (p + 10) + 2))), (10, .int (nI (p + 14 + by4 f (p + 10) + 2 + 8 * by2 f (p + 14 + by4 f (p + 10))))), (13, .int (nI i))], [.int (nI x), .ref (q 38)], M31)) rfl rfl rfl ?_
          refine ps_st (S' := (387, [(0, .ref m0), (2, .int (nI (p + 6))), (4, .int (nI x)), (5, .long (nL (by4 f (p + 10)))), (8, .int (nI (by2 f (p + 14 + by4 f (p + 10))))), (9, .int (nI (p + 14 + by4 f (p + 10) + 2))), (10, .int (nI (p + 14 + by4 f (p + 10) + 2 + 8 * by2 f (p + 14 + by4 f (p + 10))))), (13, .int (nI i))], [.long (nL (by4 f (p + 10))), .int (nI x), .ref (q 38)], M31)) rfl rfl rfl ?_
          refine ps_st (S' := (388, [(0, .ref m0), (2, .int (nI (p + 6))), (4, .int (nI x)), (5, .long (nL (by4 f (p + 10)))), (8, .int (nI (by2 f (p + 14 + by4 f (p + 10))))), (9, .int (nI (p + 14 + by4 f (p + 10) + 2))), (10, .int (nI (p + 14 + by4 f (p + 10) + 2 + 8 * by2 f (p + 14 + by4 f (p + 10))))), (13, .int (nI i))], [.int (Int64.toInt32 (nL (by4 f (p + 10)))), .int (nI x), .ref (q 38)], M31)) rfl rfl rfl ?_
          rw [l2i_nL (p := by4 f (p + 10)) (by omega)]
          show pl _ _ _ (_, [(0, .ref m0), (2, .int (nI (p + 6))), (4, .int (nI x)), (5, .long (nL (by4 f (p + 10)))), (8, .int (nI (by2 f (p + 14 + by4 f (p + 10))))), (9, .int (nI (p + 14 + by4 f (p + 10) + 2))), (10, .int (nI (p + 14 + by4 f (p + 10) + 2 + 8 * by2 f (p + 14 + by4 f (p + 10))))), (13, .int (nI i))], [.int (nI (by4 f (p + 10))), .int (nI x), .ref (q 38)], M31) _
          refine pr_st (a := 38) (j := x) rfl hR33 rfl (by omega) (fun M40 R41 i1_388 hR42 hS43 => ?_)
          have hF_44 := hF_35.mono (fun _ _ => rfl) (rRx hS43 (by decide))
          have hY_45 := hY_36.mono (fun _ _ => rfl) (rRx hS43 (by decide))
          have hP_46 := hP_37.mono (fun _ _ => rfl) (rRx hS43 (by decide))
          have hK_47 := hK_38.mono (fun _ _ => rfl) (rRx hS43 (by decide))
          have hER48 := hER39.st hS43 (by decide)
          show pl _ _ _ (389, [(0, .ref m0), (2, .int (nI (p + 6))), (4, .int (nI x)), (5, .long (nL (by4 f (p + 10)))), (8, .int (nI (by2 f (p + 14 + by4 f (p + 10))))), (9, .int (nI (p + 14 + by4 f (p + 10) + 2))), (10, .int (nI (p + 14 + by4 f (p + 10) + 2 + 8 * by2 f (p + 14 + by4 f (p + 10))))), (13, .int (nI i))], [], M40) _
          refine ps_st (S' := (390, [(0, .ref m0), (2, .int (nI (p + 6))), (4, .int (nI x)), (5, .long (nL (by4 f (p + 10)))), (8, .int (nI (by2 f (p + 14 + by4 f (p + 10))))), (9, .int (nI (p + 14 + by4 f (p + 10) + 2))), (10, .int (nI (p + 14 + by4 f (p + 10) + 2 + 8 * by2 f (p + 14 + by4 f (p + 10))))), (13, .int (nI i))], [.ref m0], M40)) rfl rfl rfl ?_
          refine pr_ref (j := 37) (S' := (393, [(0, .ref m0), (2, .int (nI (p + 6))), (4, .int (nI x)), (5, .long (nL (by4 f (p + 10)))), (8, .int (nI (by2 f (p + 14 + by4 f (p + 10))))), (9, .int (nI (p + 14 + by4 f (p + 10) + 2))), (10, .int (nI (p + 14 + by4 f (p + 10) + 2 + 8 * by2 f (p + 14 + by4 f (p + 10))))), (13, .int (nI i))], [.ref (q 37)], M40)) rfl hR42 rfl rfl ?_
          refine ps_st (S' := (395, [(0, .ref m0), (2, .int (nI (p + 6))), (4, .int (nI x)), (5, .long (nL (by4 f (p + 10)))), (8, .int (nI (by2 f (p + 14 + by4 f (p + 10))))), (9, .int (nI (p + 14 + by4 f (p + 10) + 2))), (10, .int (nI (p + 14 + by4 f (p + 10) + 2 + 8 * by2 f (p + 14 + by4 f (p + 10))))), (13, .int (nI i))], [.int (nI x), .ref (q 37)], M40)) rfl rfl rfl ?_
          refine ps_st (S' := (396, [(0, .ref m0), (2, .int (nI (p + 6))), (4, .int (nI x)), (5, .long (nL (by4 f (p + 10)))), (8, .int (nI (by2 f (p + 14 + by4 f (p + 10))))), (9, .int (nI (p + 14 + by4 f (p + 10) + 2))), (10, .int (nI (p + 14 + by4 f (p + 10) + 2 + 8 * by2 f (p + 14 + by4 f (p + 10))))), (13, .int (nI i))], [.ref m0, .int (nI x), .ref (q 37)], M40)) rfl rfl rfl ?_
          refine pr_int (j := 49) (S' := (399, [(0, .ref m0), (2, .int (nI (p + 6))), (4, .int (nI x)), (5, .long (nL (by4 f (p + 10)))), (8, .int (nI (by2 f (p + 14 + by4 f (p + 10))))), (9, .int (nI (p + 14 + by4 f (p + 10) + 2))), (10, .int (nI (p + 14 + by4 f (p + 10) + 2 + 8 * by2 f (p + 14 + by4 f (p + 10))))), (13, .int (nI i))], [.int 0, .int (nI x), .ref (q 37)], M40)) rfl hR42 rfl hF_44.2.1 rfl ?_
          refine ps_st (S' := (400, [(0, .ref m0), (2, .int (nI (p + 6))), (4, .int (nI x)), (5, .long (nL (by4 f (p + 10)))), (8, .int (nI (by2 f (p + 14 + by4 f (p + 10))))), (9, .int (nI (p + 14 + by4 f (p + 10) + 2))), (10, .int (nI (p + 14 + by4 f (p + 10) + 2 + 8 * by2 f (p + 14 + by4 f (p + 10))))), (13, .int (nI i))], [.int (nI (p + 6)), .int 0, .int (nI x), .ref (q 37)], M40)) rfl rfl rfl ?_
          refine ps_st (S' := (401, [(0, .ref m0), (2, .int (nI (p + 6))), (4, .int (nI x)), (5, .long (nL (by4 f (p + 10)))), (8, .int (nI (by2 f (p + 14 + by4 f (p + 10))))), (9, .int (nI (p + 14 + by4 f (p + 10) + 2))), (10, .int (nI (p + 14 + by4 f (p + 10) + 2 + 8 * by2 f (p + 14 + by4 f (p + 10))))), (13, .int (nI i))], [.int (0 + (nI (p + 6))), .int (nI x), .ref (q 37)], M40)) rfl rfl rfl ?_
          rw [show (0 : Int32) + (nI (p + 6)) = (nI (p + 6)) from Int32.zero_add _]
          show pl _ _ _ (_, [(0, .ref m0), (2, .int (nI (p + 6))), (4, .int (nI x)), (5, .long (nL (by4 f (p + 10)))), (8, .int (nI (by2 f (p + 14 + by4 f (p + 10))))), (9, .int (nI (p + 14 + by4 f (p + 10) + 2))), (10, .int (nI (p + 14 + by4 f (p + 10) + 2 + 8 * by2 f (p + 14 + by4 f (p + 10))))), (13, .int (nI i))], [.int (nI (p + 6)), .int (nI x), .ref (q 37)], M40) _
          refine ps_st (S' := (403, [(0, .ref m0), (2, .int (nI (p + 6))), (4, .int (nI x)), (5, .long (nL (by4 f (p + 10)))), (8, .int (nI (by2 f (p + 14 + by4 f (p + 10))))), (9, .int (nI (p + 14 + by4 f (p + 10) + 2))), (10, .int (nI (p + 14 + by4 f (p + 10) + 2 + 8 * by2 f (p + 14 + by4 f (p + 10))))), (13, .int (nI i))], [.int 8, .int (nI (p + 6)), .int (nI x), .ref (q 37)], M40)) rfl rfl rfl ?_
          refine ps_st (S' := (404, [(0, .ref m0), (2, .int (nI (p + 6))), (4, .int (nI x)), (5, .long (nL (by4 f (p + 10)))), (8, .int (nI (by2 f (p + 14 + by4 f (p + 10))))), (9, .int (nI (p + 14 + by4 f (p + 10) + 2))), (10, .int (nI (p + 14 + by4 f (p + 10) + 2 + 8 * by2 f (p + 14 + by4 f (p + 10))))), (13, .int (nI i))], [.int ((nI (p + 6)) + 8), .int (nI x), .ref (q 37)], M40)) rfl rfl rfl ?_
          rw [nI_add1 (p := p + 6) (k := 8) (x := 8) rfl (by omega)]
          show pl _ _ _ (_, [(0, .ref m0), (2, .int (nI (p + 6))), (4, .int (nI x)), (5, .long (nL (by4 f (p + 10)))), (8, .int (nI (by2 f (p + 14 + by4 f (p + 10))))), (9, .int (nI (p + 14 + by4 f (p + 10) + 2))), (10, .int (nI (p + 14 + by4 f (p + 10) + 2 + 8 * by2 f (p + 14 + by4 f (p + 10))))), (13, .int (nI i))], [.int (nI (p + 14)), .int (nI x), .ref (q 37)], M40) _
          refine pr_st (a := 37) (j := x) rfl hR42 rfl (by omega) (fun M49 R50 i1_404 hR51 hS52 => ?_)
          have hF_53 := hF_44.mono (fun _ _ => rfl) (rRx hS52 (by decide))
          have hY_54 := hY_45.mono (fun _ _ => rfl) (rRx hS52 (by decide))
          have hP_55 := hP_46.mono (fun _ _ => rfl) (rRx hS52 (by decide))
          have hK_56 := hK_47.mono (fun _ _ => rfl) (rRx hS52 (by decide))
          have hER57 := hER48.st hS52 (by decide)
          show pl _ _ _ (405, [(0, .ref m0), (2, .int (nI (p + 6))), (4, .int (nI x)), (5, .long (nL (by4 f (p + 10)))), (8, .int (nI (by2 f (p + 14 + by4 f (p + 10))))), (9, .int (nI (p + 14 + by4 f (p + 10) + 2))), (10, .int (nI (p + 14 + by4 f (p + 10) + 2 + 8 * by2 f (p + 14 + by4 f (p + 10))))), (13, .int (nI i))], [], M49) _
          refine ps_st (S' := (406, [(0, .ref m0), (2, .int (nI (p + 6))), (4, .int (nI x)), (5, .long (nL (by4 f (p + 10)))), (8, .int (nI (by2 f (p + 14 + by4 f (p + 10))))), (9, .int (nI (p + 14 + by4 f (p + 10) + 2))), (10, .int (nI (p + 14 + by4 f (p + 10) + 2 + 8 * by2 f (p + 14 + by4 f (p + 10))))), (13, .int (nI i))], [.ref m0], M49)) rfl rfl rfl ?_
          refine pr_ref (j := 41) (S' := (409, [(0, .ref m0), (2, .int (nI (p + 6))), (4, .int (nI x)), (5, .long (nL (by4 f (p + 10)))), (8, .int (nI (by2 f (p + 14 + by4 f (p + 10))))), (9, .int (nI (p + 14 + by4 f (p + 10) + 2))), (10, .int (nI (p + 14 + by4 f (p + 10) + 2 + 8 * by2 f (p + 14 + by4 f (p + 10))))), (13, .int (nI i))], [.ref (q 41)], M49)) rfl hR51 rfl rfl ?_
          refine ps_st (S' := (411, [(0, .ref m0), (2, .int (nI (p + 6))), (4, .int (nI x)), (5, .long (nL (by4 f (p + 10)))), (8, .int (nI (by2 f (p + 14 + by4 f (p + 10))))), (9, .int (nI (p + 14 + by4 f (p + 10) + 2))), (10, .int (nI (p + 14 + by4 f (p + 10) + 2 + 8 * by2 f (p + 14 + by4 f (p + 10))))), (13, .int (nI i))], [.int (nI x), .ref (q 41)], M49)) rfl rfl rfl ?_
          refine ps_st (S' := (412, [(0, .ref m0), (2, .int (nI (p + 6))), (4, .int (nI x)), (5, .long (nL (by4 f (p + 10)))), (8, .int (nI (by2 f (p + 14 + by4 f (p + 10))))), (9, .int (nI (p + 14 + by4 f (p + 10) + 2))), (10, .int (nI (p + 14 + by4 f (p + 10) + 2 + 8 * by2 f (p + 14 + by4 f (p + 10))))), (13, .int (nI i))], [.ref m0, .int (nI x), .ref (q 41)], M49)) rfl rfl rfl ?_
          refine pr_int (j := 49) (S' := (415, [(0, .ref m0), (2, .int (nI (p + 6))), (4, .int (nI x)), (5, .long (nL (by4 f (p + 10)))), (8, .int (nI (by2 f (p + 14 + by4 f (p + 10))))), (9, .int (nI (p + 14 + by4 f (p + 10) + 2))), (10, .int (nI (p + 14 + by4 f (p + 10) + 2 + 8 * by2 f (p + 14 + by4 f (p + 10))))), (13, .int (nI i))], [.int 0, .int (nI x), .ref (q 41)], M49)) rfl hR51 rfl hF_44.2.1 rfl ?_
          refine ps_st (S' := (417, [(0, .ref m0), (2, .int (nI (p + 6))), (4, .int (nI x)), (5, .long (nL (by4 f (p + 10)))), (8, .int (nI (by2 f (p + 14 + by4 f (p + 10))))), (9, .int (nI (p + 14 + by4 f (p + 10) + 2))), (10, .int (nI (p + 14 + by4 f (p + 10) + 2 + 8 * by2 f (p + 14 + by4 f (p + 10))))), (13, .int (nI i))], [.int (nI (p + 14 + by4 f (p + 10) + 2)), .int 0, .int (nI x), .ref (q 41)], M49)) rfl rfl rfl ?_
          refine ps_st (S' := (418, [(0, .ref m0), (2, .int (nI (p + 6))), (4, .int (nI x)), (5, .long (nL (by4 f (p + 10)))), (8, .int (nI (by2 f (p + 14 + by4 f (p + 10))))), (9, .int (nI (p + 14 + by4 f (p + 10) + 2))), (10, .int (nI (p + 14 + by4 f (p + 10) + 2 + 8 * by2 f (p + 14 + by4 f (p + 10))))), (13, .int (nI i))], [.int (0 + (nI (p + 14 + by4 f (p + 10) + 2))), .int (nI x), .ref (q 41)], M49)) rfl rfl rfl ?_
          rw [show (0 : Int32) + (nI (p + 14 + by4 f (p + 10) + 2)) = (nI (p + 14 + by4 f (p + 10) + 2)) from Int32.zero_add _]
          show pl _ _ _ (_, [(0, .ref m0), (2, .int (nI (p + 6))), (4, .int (nI x)), (5, .long (nL (by4 f (p + 10)))), (8, .int (nI (by2 f (p + 14 + by4 f (p + 10))))), (9, .int (nI (p + 14 + by4 f (p + 10) + 2))), (10, .int (nI (p + 14 + by4 f (p + 10) + 2 + 8 * by2 f (p + 14 + by4 f (p + 10))))), (13, .int (nI i))], [.int (nI (p + 14 + by4 f (p + 10) + 2)), .int (nI x), .ref (q 41)], M49) _
          refine pr_st (a := 41) (j := x) rfl hR51 rfl (by omega) (fun M58 R59 i1_418 hR60 hS61 => ?_)
          have hF_62 := hF_53.mono (fun _ _ => rfl) (rRx hS61 (by decide))
          have hY_63 := hY_54.mono (fun _ _ => rfl) (rRx hS61 (by decide))
          have hP_64 := hP_55.mono (fun _ _ => rfl) (rRx hS61 (by decide))
          have hK_65 := hK_56.mono (fun _ _ => rfl) (rRx hS61 (by decide))
          have hER66 := hER57.st hS61 (by decide)
          show pl _ _ _ (419, [(0, .ref m0), (2, .int (nI (p + 6))), (4, .int (nI x)), (5, .long (nL (by4 f (p + 10)))), (8, .int (nI (by2 f (p + 14 + by4 f (p + 10))))), (9, .int (nI (p + 14 + by4 f (p + 10) + 2))), (10, .int (nI (p + 14 + by4 f (p + 10) + 2 + 8 * by2 f (p + 14 + by4 f (p + 10))))), (13, .int (nI i))], [], M58) _
          refine ps_st (S' := (420, [(0, .ref m0), (2, .int (nI (p + 6))), (4, .int (nI x)), (5, .long (nL (by4 f (p + 10)))), (8, .int (nI (by2 f (p + 14 + by4 f (p + 10))))), (9, .int (nI (p + 14 + by4 f (p + 10) + 2))), (10, .int (nI (p + 14 + by4 f (p + 10) + 2 + 8 * by2 f (p + 14 + by4 f (p + 10))))), (13, .int (nI i))], [.ref m0], M58)) rfl rfl rfl ?_
          refine pr_ref (j := 42) (S' := (423, [(0, .ref m0), (2, .int (nI (p + 6))), (4, .int (nI x)), (5, .long (nL (by4 f (p + 10)))), (8, .int (nI (by2 f (p + 14 + by4 f (p + 10))))), (9, .int (nI (p + 14 + by4 f (p + 10) + 2))), (10, .int (nI (p + 14 + by4 f (p + 10) + 2 + 8 * by2 f (p + 14 + by4 f (p + 10))))), (13, .int (nI i))], [.ref (q 42)], M58)) rfl hR60 rfl rfl ?_
          refine ps_st (S' := (425, [(0, .ref m0), (2, .int (nI (p + 6))), (4, .int (nI x)), (5, .long (nL (by4 f (p + 10)))), (8, .int (nI (by2 f (p + 14 + by4 f (p + 10))))), (9, .int (nI (p + 14 + by4 f (p + 10) + 2))), (10, .int (nI (p + 14 + by4 f (p + 10) + 2 + 8 * by2 f (p + 14 + by4 f (p + 10))))), (13, .int (nI i))], [.int (nI x), .ref (q 42)], M58)) rfl rfl rfl ?_
          refine ps_st (S' := (427, [(0, .ref m0), (2, .int (nI (p + 6))), (4, .int (nI x)), (5, .long (nL (by4 f (p + 10)))), (8, .int (nI (by2 f (p + 14 + by4 f (p + 10))))), (9, .int (nI (p + 14 + by4 f (p + 10) + 2))), (10, .int (nI (p + 14 + by4 f (p + 10) + 2 + 8 * by2 f (p + 14 + by4 f (p + 10))))), (13, .int (nI i))], [.int (nI (by2 f (p + 14 + by4 f (p + 10)))), .int (nI x), .ref (q 42)], M58)) rfl rfl rfl ?_
          refine pr_st (a := 42) (j := x) rfl hR60 rfl (by omega) (fun M67 R68 i1_427 hR69 hS70 => ?_)
          have hF_71 := hF_62.mono (fun _ _ => rfl) (rRx hS70 (by decide))
          have hY_72 := hY_63.mono (fun _ _ => rfl) (rRx hS70 (by decide))
          have hP_73 := hP_64.mono (fun _ _ => rfl) (rRx hS70 (by decide))
          have hK_74 := hK_65.mono (fun _ _ => rfl) (rRx hS70 (by decide))
          have hER75 := hER66.st hS70 (by decide)
          show pl _ _ _ (428, [(0, .ref m0), (2, .int (nI (p + 6))), (4, .int (nI x)), (5, .long (nL (by4 f (p + 10)))), (8, .int (nI (by2 f (p + 14 + by4 f (p + 10))))), (9, .int (nI (p + 14 + by4 f (p + 10) + 2))), (10, .int (nI (p + 14 + by4 f (p + 10) + 2 + 8 * by2 f (p + 14 + by4 f (p + 10))))), (13, .int (nI i))], [], M67) _
          refine ps_st (S' := (429, [(0, .ref m0), (2, .int (nI (p + 6))), (4, .int (nI x)), (5, .long (nL (by4 f (p + 10)))), (8, .int (nI (by2 f (p + 14 + by4 f (p + 10))))), (9, .int (nI (p + 14 + by4 f (p + 10) + 2))), (10, .int (nI (p + 14 + by4 f (p + 10) + 2 + 8 * by2 f (p + 14 + by4 f (p + 10))))), (13, .int (nI i))], [.ref m0], M67)) rfl rfl rfl ?_
          refine ps_st (S' := (431, [(0, .ref m0), (2, .int (nI (p + 6))), (4, .int (nI x)), (5, .long (nL (by4 f (p + 10)))), (8, .int (nI (by2 f (p + 14 + by4 f (p + 10))))), (9, .int (nI (p + 14 + by4 f (p + 10) + 2))), (10, .int (nI (p + 14 + by4 f (p + 10) + 2 + 8 * by2 f (p + 14 + by4 f (p + 10))))), (13, .int (nI i))], [.int (nI (p + 14 + by4 f (p + 10) + 2 + 8 * by2 f (p + 14 + by4 f (p + 10)))), .ref m0], M67)) rfl rfl rfl ?_
          refine ps_st (S' := (432, [(0, .ref m0), (2, .int (nI (p + 6))), (4, .int (nI x)), (5, .long (nL (by4 f (p + 10)))), (8, .int (nI (by2 f (p + 14 + by4 f (p + 10))))), (9, .int (nI (p + 14 + by4 f (p + 10) + 2))), (10, .int (nI (p + 14 + by4 f (p + 10) + 2 + 8 * by2 f (p + 14 + by4 f (p + 10))))), (13, .int (nI i))], [.int 3, .int (nI (p + 14 + by4 f (p + 10) + 2 + 8 * by2 f (p + 14 + by4 f (p + 10)))), .ref m0], M67)) rfl rfl rfl ?_
          refine ps_st (S' := (434, [(0, .ref m0), (2, .int (nI (p + 6))), (4, .int (nI x)), (5, .long (nL (by4 f (p + 10)))), (8, .int (nI (by2 f (p + 14 + by4 f (p + 10))))), (9, .int (nI (p + 14 + by4 f (p + 10) + 2))), (10, .int (nI (p + 14 + by4 f (p + 10) + 2 + 8 * by2 f (p + 14 + by4 f (p + 10))))), (13, .int (nI i))], [.int (nI x), .int 3, .int (nI (p + 14 + by4 f (p + 10) + 2 + 8 * by2 f (p + 14 + by4 f (p + 10)))), .ref m0], M67)) rfl rfl rfl ?_
          have h37a : R68 37 x = some (nI (p + 14)) := by rw [hS70, rset_ne (by decide), hS61, rset_ne (by decide), hS52, rset_at]
          have hcd := (s_cdE_in hce).2.2
          have hW7 := MW.code (I' := I1) hW1 hp0 hS22 hS34 hS43 hS52 hS61 hS70
          refine pl_call (a := [.ref m0, .int (nI (p + 14 + by4 f (p + 10) + 2 + 8 * by2 f (p + 14 + by4 f (p + 10)))), .int 3, .int (nI x)]) (rest := []) rfl rfl rfl (rd_checkAttributes3 (n := n) (f := f) (tx := tx) (cN := cN) (A := A) (N := N) (mj := mj) (E := E) (p1 := (p + 14 + by4 f (p + 10) + 2 + 8 * by2 f (p + 14 + by4 f (p + 10)))) (e := e) (x := x) hR69 hl51 hl52 hl53 hF_71 hY_72 hP_73 hK_74 (hEP) (hN) (hmj) (by omega) (hcd)) (fun v76 M77 q78 => ?_)
          rcases q78 with q78 | q78
          · skip
            obtain ⟨e979, I80, R81, q434_s, rfl, hR82, hI83, hX84, hi85, hi86⟩ := q78
            have hi87 := (hI83 51 (by decide)).trans hl51
            have hi88 := (hI83 52 (by decide)).trans hl52
            have hi89 := (hI83 53 (by decide)).trans hl53
            have hi90 := (hI83 49 (by decide)).trans hF_44.2.1
            have hF_91 := hF_71.mono (cIx hI83 (by decide)) (cRx hX84 (by decide))
            have hY_92 := hY_72.mono (cIx hI83 (by decide)) (cRx hX84 (by decide))
            have hP_93 := hP_73.mono (cIx hI83 (by decide)) (cRx hX84 (by decide))
            have hK_94 := hK_74.mono (cIx hI83 (by decide)) (cRx hX84 (by decide))
            have hW_95 := hW7.mono (cIx hI83 (by decide)) (cRx hX84 (by decide))
            have hEI96 := hEI1.tr hI83 (by decide)
            have hER97 := hER75.tr hX84 (by decide)
            show pl _ _ _ (437, [(0, .ref m0), (2, .int (nI (p + 6))), (4, .int (nI x)), (5, .long (nL (by4 f (p + 10)))), (8, .int (nI (by2 f (p + 14 + by4 f (p + 10))))), (9, .int (nI (p + 14 + by4 f (p + 10) + 2))), (10, .int (nI (p + 14 + by4 f (p + 10) + 2 + 8 * by2 f (p + 14 + by4 f (p + 10))))), (13, .int (nI i))], [.int (-1)], M77) _
            refine ps_if (S1 := (444, [(0, .ref m0), (2, .int (nI (p + 6))), (4, .int (nI x)), (5, .long (nL (by4 f (p + 10)))), (8, .int (nI (by2 f (p + 14 + by4 f (p + 10))))), (9, .int (nI (p + 14 + by4 f (p + 10) + 2))), (10, .int (nI (p + 14 + by4 f (p + 10) + 2 + 8 * by2 f (p + 14 + by4 f (p + 10))))), (13, .int (nI i))], [], M77)) (S2 := (440, [(0, .ref m0), (2, .int (nI (p + 6))), (4, .int (nI x)), (5, .long (nL (by4 f (p + 10)))), (8, .int (nI (by2 f (p + 14 + by4 f (p + 10))))), (9, .int (nI (p + 14 + by4 f (p + 10) + 2))), (10, .int (nI (p + 14 + by4 f (p + 10) + 2 + 8 * by2 f (p + 14 + by4 f (p + 10))))), (13, .int (nI i))], [], M77)) rfl rfl rfl (fun c_437 => ?_) (fun c_437 => ?_)
            · exact absurd (of_decide_eq_true c_437) (by decide)
            refine ps_st (S' := (441, [(0, .ref m0), (2, .int (nI (p + 6))), (4, .int (nI x)), (5, .long (nL (by4 f (p + 10)))), (8, .int (nI (by2 f (p + 14 + by4 f (p + 10))))), (9, .int (nI (p + 14 + by4 f (p + 10) + 2))), (10, .int (nI (p + 14 + by4 f (p + 10) + 2 + 8 * by2 f (p + 14 + by4 f (p + 10))))), (13, .int (nI i))], [.int (-1)], M77)) rfl rfl rfl ?_
            refine ps_st (S' := (445, [], [.int (-1)], M77)) rfl rfl rfl ?_
            exact ps_ret rfl rfl (Or.inr (Or.inr (Or.inl ⟨e979, I80, R81, hce, by
                unfold cdS
                rw [if_neg h41, if_neg h42, if_neg (by rw [← hw9, show by2 f (p + 14 + by4 f (p + 10)) - i = 0 by omega]; exact Nat.one_ne_zero)]
                exact q434_s, rfl, hR82, hEI96, hER97, hi85, hi86⟩)))
          · skip
            obtain ⟨s'98, I99, R100, q434_s, rfl, hR101, hI102, hX103⟩ := q78
            have hi104 := (hI102 51 (by decide)).trans hl51
            have hi105 := (hI102 52 (by decide)).trans hl52
            have hi106 := (hI102 53 (by decide)).trans hl53
            have hi107 := (hI102 49 (by decide)).trans hF_44.2.1
            have hF_108 := hF_71.mono (cIx hI102 (by decide)) (cRx hX103 (by decide))
            have hY_109 := hY_72.mono (cIx hI102 (by decide)) (cRx hX103 (by decide))
            have hP_110 := hP_73.mono (cIx hI102 (by decide)) (cRx hX103 (by decide))
            have hK_111 := hK_74.mono (cIx hI102 (by decide)) (cRx hX103 (by decide))
            have hW_112 := hW7.mono (cIx hI102 (by decide)) (cRx hX103 (by decide))
            have hEI113 := hEI1.tr hI102 (by decide)
            have hER114 := hER75.tr hX103 (by decide)
            show pl _ _ _ (437, [(0, .ref m0), (2, .int (nI (p + 6))), (4, .int (nI x)), (5, .long (nL (by4 f (p + 10)))), (8, .int (nI (by2 f (p + 14 + by4 f (p + 10))))), (9, .int (nI (p + 14 + by4 f (p + 10) + 2))), (10, .int (nI (p + 14 + by4 f (p + 10) + 2 + 8 * by2 f (p + 14 + by4 f (p + 10))))), (13, .int (nI i))], [.int (nI e)], M77) _
            have h37 : R100 37 x = some (nI (p + 14)) := by rw [hX103 37 (by decide)]; exact h37a
            refine ps_if (S1 := (444, [(0, .ref m0), (2, .int (nI (p + 6))), (4, .int (nI x)), (5, .long (nL (by4 f (p + 10)))), (8, .int (nI (by2 f (p + 14 + by4 f (p + 10))))), (9, .int (nI (p + 14 + by4 f (p + 10) + 2))), (10, .int (nI (p + 14 + by4 f (p + 10) + 2 + 8 * by2 f (p + 14 + by4 f (p + 10))))), (13, .int (nI i))], [], M77)) (S2 := (440, [(0, .ref m0), (2, .int (nI (p + 6))), (4, .int (nI x)), (5, .long (nL (by4 f (p + 10)))), (8, .int (nI (by2 f (p + 14 + by4 f (p + 10))))), (9, .int (nI (p + 14 + by4 f (p + 10) + 2))), (10, .int (nI (p + 14 + by4 f (p + 10) + 2 + 8 * by2 f (p + 14 + by4 f (p + 10))))), (13, .int (nI i))], [], M77)) rfl rfl rfl (fun c_437 => ?_) (fun c_437 => ?_)
            rotate_left
            · exact absurd ((le_nI (p := 0) (n := e) (by decide) (by omega)).mpr (by omega)) (of_decide_eq_false c_437)
            refine ps_st (S' := (445, [], [.int 0], M77)) rfl rfl rfl ?_
            exact ps_ret rfl rfl (Or.inr (Or.inr (Or.inr ⟨s'98, I99, R100, hce, by
                unfold cdS
                rw [if_neg h41, if_neg h42, if_neg (by rw [← hw9, show by2 f (p + 14 + by4 f (p + 10)) - i = 0 by omega]; exact Nat.one_ne_zero)]
                exact q434_s, h37, rfl, hR101, hEI113, hER114, hW_112⟩)))
        · have c_254 : ¬ ((nI (by2 f (p + 14 + by4 f (p + 10)))) ≤ (nI i)) := of_decide_eq_false c_254
          have n_254 : ¬ (by2 f (p + 14 + by4 f (p + 10)) ≤ i) := fun h9 => c_254 ((le_nI (p := by2 f (p + 14 + by4 f (p + 10))) (n := i) (Nat.lt_trans (by2_lt _ _) (by decide)) (by omega)).mpr h9)
          refine ps_st (S' := (259, [(0, .ref m0), (2, .int (nI (p + 6))), (4, .int (nI x)), (5, .long (nL (by4 f (p + 10)))), (8, .int (nI (by2 f (p + 14 + by4 f (p + 10))))), (9, .int (nI (p + 14 + by4 f (p + 10) + 2))), (10, .int (nI (p + 14 + by4 f (p + 10) + 2 + 8 * by2 f (p + 14 + by4 f (p + 10))))), (13, .int (nI i))], [.int (nI (p + 14 + by4 f (p + 10) + 2))], M1)) rfl rfl rfl ?_
          refine ps_st (S' := (261, [(0, .ref m0), (2, .int (nI (p + 6))), (4, .int (nI x)), (5, .long (nL (by4 f (p + 10)))), (8, .int (nI (by2 f (p + 14 + by4 f (p + 10))))), (9, .int (nI (p + 14 + by4 f (p + 10) + 2))), (10, .int (nI (p + 14 + by4 f (p + 10) + 2 + 8 * by2 f (p + 14 + by4 f (p + 10))))), (13, .int (nI i))], [.int 8, .int (nI (p + 14 + by4 f (p + 10) + 2))], M1)) rfl rfl rfl ?_
          refine ps_st (S' := (263, [(0, .ref m0), (2, .int (nI (p + 6))), (4, .int (nI x)), (5, .long (nL (by4 f (p + 10)))), (8, .int (nI (by2 f (p + 14 + by4 f (p + 10))))), (9, .int (nI (p + 14 + by4 f (p + 10) + 2))), (10, .int (nI (p + 14 + by4 f (p + 10) + 2 + 8 * by2 f (p + 14 + by4 f (p + 10))))), (13, .int (nI i))], [.int (nI i), .int 8, .int (nI (p + 14 + by4 f (p + 10) + 2))], M1)) rfl rfl rfl ?_
          refine ps_st (S' := (264, [(0, .ref m0), (2, .int (nI (p + 6))), (4, .int (nI x)), (5, .long (nL (by4 f (p + 10)))), (8, .int (nI (by2 f (p + 14 + by4 f (p + 10))))), (9, .int (nI (p + 14 + by4 f (p + 10) + 2))), (10, .int (nI (p + 14 + by4 f (p + 10) + 2 + 8 * by2 f (p + 14 + by4 f (p + 10))))), (13, .int (nI i))], [.int (8 * (nI i)), .int (nI (p + 14 + by4 f (p + 10) + 2))], M1)) rfl rfl rfl ?_
          rw [nI_mul1 (p := 8) (k := i) (x := 8) (y := (nI i)) rfl rfl (by omega)]
          show pl _ _ _ (_, [(0, .ref m0), (2, .int (nI (p + 6))), (4, .int (nI x)), (5, .long (nL (by4 f (p + 10)))), (8, .int (nI (by2 f (p + 14 + by4 f (p + 10))))), (9, .int (nI (p + 14 + by4 f (p + 10) + 2))), (10, .int (nI (p + 14 + by4 f (p + 10) + 2 + 8 * by2 f (p + 14 + by4 f (p + 10))))), (13, .int (nI i))], [.int (nI (8 * i)), .int (nI (p + 14 + by4 f (p + 10) + 2))], M1) _
          refine ps_st (S' := (265, [(0, .ref m0), (2, .int (nI (p + 6))), (4, .int (nI x)), (5, .long (nL (by4 f (p + 10)))), (8, .int (nI (by2 f (p + 14 + by4 f (p + 10))))), (9, .int (nI (p + 14 + by4 f (p + 10) + 2))), (10, .int (nI (p + 14 + by4 f (p + 10) + 2 + 8 * by2 f (p + 14 + by4 f (p + 10))))), (13, .int (nI i))], [.int ((nI (p + 14 + by4 f (p + 10) + 2)) + (nI (8 * i)))], M1)) rfl rfl rfl ?_
          rw [nI_add1 (p := p + 14 + by4 f (p + 10) + 2) (k := 8 * i) (x := (nI (8 * i))) rfl (by omega)]
          show pl _ _ _ (_, [(0, .ref m0), (2, .int (nI (p + 6))), (4, .int (nI x)), (5, .long (nL (by4 f (p + 10)))), (8, .int (nI (by2 f (p + 14 + by4 f (p + 10))))), (9, .int (nI (p + 14 + by4 f (p + 10) + 2))), (10, .int (nI (p + 14 + by4 f (p + 10) + 2 + 8 * by2 f (p + 14 + by4 f (p + 10))))), (13, .int (nI i))], [.int (nI (p + 14 + by4 f (p + 10) + 2 + 8 * i))], M1) _
          refine ps_st (S' := (267, [(14, .int (nI (p + 14 + by4 f (p + 10) + 2 + 8 * i))), (0, .ref m0), (2, .int (nI (p + 6))), (4, .int (nI x)), (5, .long (nL (by4 f (p + 10)))), (8, .int (nI (by2 f (p + 14 + by4 f (p + 10))))), (9, .int (nI (p + 14 + by4 f (p + 10) + 2))), (10, .int (nI (p + 14 + by4 f (p + 10) + 2 + 8 * by2 f (p + 14 + by4 f (p + 10))))), (13, .int (nI i))], [], M1)) rfl rfl rfl ?_
          refine ps_st (S' := (268, [(14, .int (nI (p + 14 + by4 f (p + 10) + 2 + 8 * i))), (0, .ref m0), (2, .int (nI (p + 6))), (4, .int (nI x)), (5, .long (nL (by4 f (p + 10)))), (8, .int (nI (by2 f (p + 14 + by4 f (p + 10))))), (9, .int (nI (p + 14 + by4 f (p + 10) + 2))), (10, .int (nI (p + 14 + by4 f (p + 10) + 2 + 8 * by2 f (p + 14 + by4 f (p + 10))))), (13, .int (nI i))], [.ref m0], M1)) rfl rfl rfl ?_
          refine ps_st (S' := (270, [(14, .int (nI (p + 14 + by4 f (p + 10) + 2 + 8 * i))), (0, .ref m0), (2, .int (nI (p + 6))), (4, .int (nI x)), (5, .long (nL (by4 f (p + 10)))), (8, .int (nI (by2 f (p + 14 + by4 f (p + 10))))), (9, .int (nI (p + 14 + by4 f (p + 10) + 2))), (10, .int (nI (p + 14 + by4 f (p + 10) + 2 + 8 * by2 f (p + 14 + by4 f (p + 10))))), (13, .int (nI i))], [.int (nI (p + 14 + by4 f (p + 10) + 2 + 8 * i)), .ref m0], M1)) rfl rfl rfl ?_
          refine pl_call (a := [.ref m0, .int (nI (p + 14 + by4 f (p + 10) + 2 + 8 * i))]) (rest := []) rfl rfl rfl (rd_u2 (n := n) (f := f) (p := (p + 14 + by4 f (p + 10) + 2 + 8 * i)) hR1 hF1 (by omega)) (fun v115 M116 q117 => ?_)
          obtain ⟨rfl, rfl⟩ := q117
          show pl _ _ _ (273, [(14, .int (nI (p + 14 + by4 f (p + 10) + 2 + 8 * i))), (0, .ref m0), (2, .int (nI (p + 6))), (4, .int (nI x)), (5, .long (nL (by4 f (p + 10)))), (8, .int (nI (by2 f (p + 14 + by4 f (p + 10))))), (9, .int (nI (p + 14 + by4 f (p + 10) + 2))), (10, .int (nI (p + 14 + by4 f (p + 10) + 2 + 8 * by2 f (p + 14 + by4 f (p + 10))))), (13, .int (nI i))], [.int (nI (by2 f (p + 14 + by4 f (p + 10) + 2 + 8 * i)))], M1) _
          have hu_270 := by2_lt f (p + 14 + by4 f (p + 10) + 2 + 8 * i)
          refine ps_st (S' := (274, [(14, .int (nI (p + 14 + by4 f (p + 10) + 2 + 8 * i))), (0, .ref m0), (2, .int (nI (p + 6))), (4, .int (nI x)), (5, .long (nL (by4 f (p + 10)))), (8, .int (nI (by2 f (p + 14 + by4 f (p + 10))))), (9, .int (nI (p + 14 + by4 f (p + 10) + 2))), (10, .int (nI (p + 14 + by4 f (p + 10) + 2 + 8 * by2 f (p + 14 + by4 f (p + 10))))), (13, .int (nI i))], [.ref m0, .int (nI (by2 f (p + 14 + by4 f (p + 10) + 2 + 8 * i)))], M1)) rfl rfl rfl ?_
          refine ps_st (S' := (276, [(14, .int (nI (p + 14 + by4 f (p + 10) + 2 + 8 * i))), (0, .ref m0), (2, .int (nI (p + 6))), (4, .int (nI x)), (5, .long (nL (by4 f (p + 10)))), (8, .int (nI (by2 f (p + 14 + by4 f (p + 10))))), (9, .int (nI (p + 14 + by4 f (p + 10) + 2))), (10, .int (nI (p + 14 + by4 f (p + 10) + 2 + 8 * by2 f (p + 14 + by4 f (p + 10))))), (13, .int (nI i))], [.int (nI (p + 14 + by4 f (p + 10) + 2 + 8 * i)), .ref m0, .int (nI (by2 f (p + 14 + by4 f (p + 10) + 2 + 8 * i)))], M1)) rfl rfl rfl ?_
          refine ps_st (S' := (277, [(14, .int (nI (p + 14 + by4 f (p + 10) + 2 + 8 * i))), (0, .ref m0), (2, .int (nI (p + 6))), (4, .int (nI x)), (5, .long (nL (by4 f (p + 10)))), (8, .int (nI (by2 f (p + 14 + by4 f (p + 10))))), (9, .int (nI (p + 14 + by4 f (p + 10) + 2))), (10, .int (nI (p + 14 + by4 f (p + 10) + 2 + 8 * by2 f (p + 14 + by4 f (p + 10))))), (13, .int (nI i))], [.int 2, .int (nI (p + 14 + by4 f (p + 10) + 2 + 8 * i)), .ref m0, .int (nI (by2 f (p + 14 + by4 f (p + 10) + 2 + 8 * i)))], M1)) rfl rfl rfl ?_
          refine ps_st (S' := (278, [(14, .int (nI (p + 14 + by4 f (p + 10) + 2 + 8 * i))), (0, .ref m0), (2, .int (nI (p + 6))), (4, .int (nI x)), (5, .long (nL (by4 f (p + 10)))), (8, .int (nI (by2 f (p + 14 + by4 f (p + 10))))), (9, .int (nI (p + 14 + by4 f (p + 10) + 2))), (10, .int (nI (p + 14 + by4 f (p + 10) + 2 + 8 * by2 f (p + 14 + by4 f (p + 10))))), (13, .int (nI i))], [.int ((nI (p + 14 + by4 f (p + 10) + 2 + 8 * i)) + 2), .ref m0, .int (nI (by2 f (p + 14 + by4 f (p + 10) + 2 + 8 * i)))], M1)) rfl rfl rfl ?_
          rw [nI_add1 (p := p + 14 + by4 f (p + 10) + 2 + 8 * i) (k := 2) (x := 2) rfl (by omega)]
          show pl _ _ _ (_, [(14, .int (nI (p + 14 + by4 f (p + 10) + 2 + 8 * i))), (0, .ref m0), (2, .int (nI (p + 6))), (4, .int (nI x)), (5, .long (nL (by4 f (p + 10)))), (8, .int (nI (by2 f (p + 14 + by4 f (p + 10))))), (9, .int (nI (p + 14 + by4 f (p + 10) + 2))), (10, .int (nI (p + 14 + by4 f (p + 10) + 2 + 8 * by2 f (p + 14 + by4 f (p + 10))))), (13, .int (nI i))], [.int (nI (p + 14 + by4 f (p + 10) + 2 + 8 * i + 2)), .ref m0, .int (nI (by2 f (p + 14 + by4 f (p + 10) + 2 + 8 * i)))], M1) _
          refine pl_call (a := [.ref m0, .int (nI (p + 14 + by4 f (p + 10) + 2 + 8 * i + 2))]) (rest := [.int (nI (by2 f (p + 14 + by4 f (p + 10) + 2 + 8 * i)))]) rfl rfl rfl (rd_u2 (n := n) (f := f) (p := (p + 14 + by4 f (p + 10) + 2 + 8 * i + 2)) hR1 hF1 (by omega)) (fun v118 M119 q120 => ?_)
          obtain ⟨rfl, rfl⟩ := q120
          show pl _ _ _ (281, [(14, .int (nI (p + 14 + by4 f (p + 10) + 2 + 8 * i))), (0, .ref m0), (2, .int (nI (p + 6))), (4, .int (nI x)), (5, .long (nL (by4 f (p + 10)))), (8, .int (nI (by2 f (p + 14 + by4 f (p + 10))))), (9, .int (nI (p + 14 + by4 f (p + 10) + 2))), (10, .int (nI (p + 14 + by4 f (p + 10) + 2 + 8 * by2 f (p + 14 + by4 f (p + 10))))), (13, .int (nI i))], [.int (nI (by2 f (p + 14 + by4 f (p + 10) + 2 + 8 * i + 2))), .int (nI (by2 f (p + 14 + by4 f (p + 10) + 2 + 8 * i)))], M1) _
          have hu_278 := by2_lt f (p + 14 + by4 f (p + 10) + 2 + 8 * i + 2)
          refine ps_if2 (S1 := (344, [], [], M1)) (S2 := (284, [(14, .int (nI (p + 14 + by4 f (p + 10) + 2 + 8 * i))), (0, .ref m0), (2, .int (nI (p + 6))), (4, .int (nI x)), (5, .long (nL (by4 f (p + 10)))), (8, .int (nI (by2 f (p + 14 + by4 f (p + 10))))), (9, .int (nI (p + 14 + by4 f (p + 10) + 2))), (10, .int (nI (p + 14 + by4 f (p + 10) + 2 + 8 * by2 f (p + 14 + by4 f (p + 10))))), (13, .int (nI i))], [], M1)) rfl rfl rfl (fun c_281 => ?_) (fun c_281 => ?_)
          · have c_281 : (nI (by2 f (p + 14 + by4 f (p + 10) + 2 + 8 * i + 2))) ≤ (nI (by2 f (p + 14 + by4 f (p + 10) + 2 + 8 * i))) := of_decide_eq_true c_281
            have n_281 : by2 f (p + 14 + by4 f (p + 10) + 2 + 8 * i + 2) ≤ by2 f (p + 14 + by4 f (p + 10) + 2 + 8 * i) := (le_nI (p := by2 f (p + 14 + by4 f (p + 10) + 2 + 8 * i + 2)) (n := by2 f (p + 14 + by4 f (p + 10) + 2 + 8 * i)) (Nat.lt_trans (by2_lt _ _) (by decide)) (Nat.lt_trans (by2_lt _ _) (by decide))).mp c_281
            refine ps_st (S' := (346, [], [.int 43], M1)) rfl rfl rfl ?_
            exact ps_ret rfl rfl (Or.inr (Or.inl ⟨43, I1, R1, hce, by
                unfold cdS
                rw [if_neg h41, if_neg h42, if_pos (by rw [← hw9, rwA_st (i := i) (by omega), if_pos (by unfold rwN; rw [if_neg (by omega)])])], by decide, rfl, hR1, hEI1, hER1⟩))
          · have c_281 : ¬ ((nI (by2 f (p + 14 + by4 f (p + 10) + 2 + 8 * i + 2))) ≤ (nI (by2 f (p + 14 + by4 f (p + 10) + 2 + 8 * i)))) := of_decide_eq_false c_281
            have n_281 : ¬ (by2 f (p + 14 + by4 f (p + 10) + 2 + 8 * i + 2) ≤ by2 f (p + 14 + by4 f (p + 10) + 2 + 8 * i)) := fun h9 => c_281 ((le_nI (p := by2 f (p + 14 + by4 f (p + 10) + 2 + 8 * i + 2)) (n := by2 f (p + 14 + by4 f (p + 10) + 2 + 8 * i)) (Nat.lt_trans (by2_lt _ _) (by decide)) (Nat.lt_trans (by2_lt _ _) (by decide))).mpr h9)
            refine ps_st (S' := (285, [(14, .int (nI (p + 14 + by4 f (p + 10) + 2 + 8 * i))), (0, .ref m0), (2, .int (nI (p + 6))), (4, .int (nI x)), (5, .long (nL (by4 f (p + 10)))), (8, .int (nI (by2 f (p + 14 + by4 f (p + 10))))), (9, .int (nI (p + 14 + by4 f (p + 10) + 2))), (10, .int (nI (p + 14 + by4 f (p + 10) + 2 + 8 * by2 f (p + 14 + by4 f (p + 10))))), (13, .int (nI i))], [.ref m0], M1)) rfl rfl rfl ?_
            refine ps_st (S' := (287, [(14, .int (nI (p + 14 + by4 f (p + 10) + 2 + 8 * i))), (0, .ref m0), (2, .int (nI (p + 6))), (4, .int (nI x)), (5, .long (nL (by4 f (p + 10)))), (8, .int (nI (by2 f (p + 14 + by4 f (p + 10))))), (9, .int (nI (p + 14 + by4 f (p + 10) + 2))), (10, .int (nI (p + 14 + by4 f (p + 10) + 2 + 8 * by2 f (p + 14 + by4 f (p + 10))))), (13, .int (nI i))], [.int (nI (p + 14 + by4 f (p + 10) + 2 + 8 * i)), .ref m0], M1)) rfl rfl rfl ?_
            refine ps_st (S' := (288, [(14, .int (nI (p + 14 + by4 f (p + 10) + 2 + 8 * i))), (0, .ref m0), (2, .int (nI (p + 6))), (4, .int (nI x)), (5, .long (nL (by4 f (p + 10)))), (8, .int (nI (by2 f (p + 14 + by4 f (p + 10))))), (9, .int (nI (p + 14 + by4 f (p + 10) + 2))), (10, .int (nI (p + 14 + by4 f (p + 10) + 2 + 8 * by2 f (p + 14 + by4 f (p + 10))))), (13, .int (nI i))], [.int 2, .int (nI (p + 14 + by4 f (p + 10) + 2 + 8 * i)), .ref m0], M1)) rfl rfl rfl ?_
            refine ps_st (S' := (289, [(14, .int (nI (p + 14 + by4 f (p + 10) + 2 + 8 * i))), (0, .ref m0), (2, .int (nI (p + 6))), (4, .int (nI x)), (5, .long (nL (by4 f (p + 10)))), (8, .int (nI (by2 f (p + 14 + by4 f (p + 10))))), (9, .int (nI (p + 14 + by4 f (p + 10) + 2))), (10, .int (nI (p + 14 + by4 f (p + 10) + 2 + 8 * by2 f (p + 14 + by4 f (p + 10))))), (13, .int (nI i))], [.int ((nI (p + 14 + by4 f (p + 10) + 2 + 8 * i)) + 2), .ref m0], M1)) rfl rfl rfl ?_
            rw [nI_add1 (p := p + 14 + by4 f (p + 10) + 2 + 8 * i) (k := 2) (x := 2) rfl (by omega)]
            show pl _ _ _ (_, [(14, .int (nI (p + 14 + by4 f (p + 10) + 2 + 8 * i))), (0, .ref m0), (2, .int (nI (p + 6))), (4, .int (nI x)), (5, .long (nL (by4 f (p + 10)))), (8, .int (nI (by2 f (p + 14 + by4 f (p + 10))))), (9, .int (nI (p + 14 + by4 f (p + 10) + 2))), (10, .int (nI (p + 14 + by4 f (p + 10) + 2 + 8 * by2 f (p + 14 + by4 f (p + 10))))), (13, .int (nI i))], [.int (nI (p + 14 + by4 f (p + 10) + 2 + 8 * i + 2)), .ref m0], M1) _
            refine pl_call (a := [.ref m0, .int (nI (p + 14 + by4 f (p + 10) + 2 + 8 * i + 2))]) (rest := []) rfl rfl rfl (rd_u2 (n := n) (f := f) (p := (p + 14 + by4 f (p + 10) + 2 + 8 * i + 2)) hR1 hF1 (by omega)) (fun v121 M122 q123 => ?_)
            obtain ⟨rfl, rfl⟩ := q123
            show pl _ _ _ (292, [(14, .int (nI (p + 14 + by4 f (p + 10) + 2 + 8 * i))), (0, .ref m0), (2, .int (nI (p + 6))), (4, .int (nI x)), (5, .long (nL (by4 f (p + 10)))), (8, .int (nI (by2 f (p + 14 + by4 f (p + 10))))), (9, .int (nI (p + 14 + by4 f (p + 10) + 2))), (10, .int (nI (p + 14 + by4 f (p + 10) + 2 + 8 * by2 f (p + 14 + by4 f (p + 10))))), (13, .int (nI i))], [.int (nI (by2 f (p + 14 + by4 f (p + 10) + 2 + 8 * i + 2)))], M1) _
            have hu_289 := by2_lt f (p + 14 + by4 f (p + 10) + 2 + 8 * i + 2)
            refine ps_st (S' := (293, [(14, .int (nI (p + 14 + by4 f (p + 10) + 2 + 8 * i))), (0, .ref m0), (2, .int (nI (p + 6))), (4, .int (nI x)), (5, .long (nL (by4 f (p + 10)))), (8, .int (nI (by2 f (p + 14 + by4 f (p + 10))))), (9, .int (nI (p + 14 + by4 f (p + 10) + 2))), (10, .int (nI (p + 14 + by4 f (p + 10) + 2 + 8 * by2 f (p + 14 + by4 f (p + 10))))), (13, .int (nI i))], [.long (Int32.toInt64 (nI (by2 f (p + 14 + by4 f (p + 10) + 2 + 8 * i + 2))))], M1)) rfl rfl rfl ?_
            rw [i2l_nL (p := by2 f (p + 14 + by4 f (p + 10) + 2 + 8 * i + 2)) (by omega)]
            show pl _ _ _ (_, [(14, .int (nI (p + 14 + by4 f (p + 10) + 2 + 8 * i))), (0, .ref m0), (2, .int (nI (p + 6))), (4, .int (nI x)), (5, .long (nL (by4 f (p + 10)))), (8, .int (nI (by2 f (p + 14 + by4 f (p + 10))))), (9, .int (nI (p + 14 + by4 f (p + 10) + 2))), (10, .int (nI (p + 14 + by4 f (p + 10) + 2 + 8 * by2 f (p + 14 + by4 f (p + 10))))), (13, .int (nI i))], [.long (nL (by2 f (p + 14 + by4 f (p + 10) + 2 + 8 * i + 2)))], M1) _
            refine ps_st (S' := (295, [(14, .int (nI (p + 14 + by4 f (p + 10) + 2 + 8 * i))), (0, .ref m0), (2, .int (nI (p + 6))), (4, .int (nI x)), (5, .long (nL (by4 f (p + 10)))), (8, .int (nI (by2 f (p + 14 + by4 f (p + 10))))), (9, .int (nI (p + 14 + by4 f (p + 10) + 2))), (10, .int (nI (p + 14 + by4 f (p + 10) + 2 + 8 * by2 f (p + 14 + by4 f (p + 10))))), (13, .int (nI i))], [.long (nL (by4 f (p + 10))), .long (nL (by2 f (p + 14 + by4 f (p + 10) + 2 + 8 * i + 2)))], M1)) rfl rfl rfl ?_
            refine ps_st (S' := (296, [(14, .int (nI (p + 14 + by4 f (p + 10) + 2 + 8 * i))), (0, .ref m0), (2, .int (nI (p + 6))), (4, .int (nI x)), (5, .long (nL (by4 f (p + 10)))), (8, .int (nI (by2 f (p + 14 + by4 f (p + 10))))), (9, .int (nI (p + 14 + by4 f (p + 10) + 2))), (10, .int (nI (p + 14 + by4 f (p + 10) + 2 + 8 * by2 f (p + 14 + by4 f (p + 10))))), (13, .int (nI i))], [.int (lg_cmp (nL (by2 f (p + 14 + by4 f (p + 10) + 2 + 8 * i + 2))) (nL (by4 f (p + 10))))], M1)) rfl rfl rfl ?_
            refine ps_if (S1 := (344, [], [], M1)) (S2 := (299, [(14, .int (nI (p + 14 + by4 f (p + 10) + 2 + 8 * i))), (0, .ref m0), (2, .int (nI (p + 6))), (4, .int (nI x)), (5, .long (nL (by4 f (p + 10)))), (8, .int (nI (by2 f (p + 14 + by4 f (p + 10))))), (9, .int (nI (p + 14 + by4 f (p + 10) + 2))), (10, .int (nI (p + 14 + by4 f (p + 10) + 2 + 8 * by2 f (p + 14 + by4 f (p + 10))))), (13, .int (nI i))], [], M1)) rfl rfl rfl (fun c_296 => ?_) (fun c_296 => ?_)
            · have n_296 : by4 f (p + 10) < by2 f (p + 14 + by4 f (p + 10) + 2 + 8 * i + 2) := (cL_gt (p := by2 f (p + 14 + by4 f (p + 10) + 2 + 8 * i + 2)) (k := by4 f (p + 10)) (x := (nL (by2 f (p + 14 + by4 f (p + 10) + 2 + 8 * i + 2)))) (y := (nL (by4 f (p + 10)))) rfl rfl (by omega) (by omega)).mp (of_decide_eq_true c_296)
              refine ps_st (S' := (346, [], [.int 43], M1)) rfl rfl rfl ?_
              exact ps_ret rfl rfl (Or.inr (Or.inl ⟨43, I1, R1, hce, by
                  unfold cdS
                  rw [if_neg h41, if_neg h42, if_pos (by rw [← hw9, rwA_st (i := i) (by omega), if_pos (by unfold rwN; rw [if_neg (by omega)])])], by decide, rfl, hR1, hEI1, hER1⟩))
            · have n_296 : ¬ (by4 f (p + 10) < by2 f (p + 14 + by4 f (p + 10) + 2 + 8 * i + 2)) := fun h9 => of_decide_eq_false c_296 ((cL_gt (p := by2 f (p + 14 + by4 f (p + 10) + 2 + 8 * i + 2)) (k := by4 f (p + 10)) (x := (nL (by2 f (p + 14 + by4 f (p + 10) + 2 + 8 * i + 2)))) (y := (nL (by4 f (p + 10)))) rfl rfl (by omega) (by omega)).mpr h9)
              refine ps_st (S' := (300, [(14, .int (nI (p + 14 + by4 f (p + 10) + 2 + 8 * i))), (0, .ref m0), (2, .int (nI (p + 6))), (4, .int (nI x)), (5, .long (nL (by4 f (p + 10)))), (8, .int (nI (by2 f (p + 14 + by4 f (p + 10))))), (9, .int (nI (p + 14 + by4 f (p + 10) + 2))), (10, .int (nI (p + 14 + by4 f (p + 10) + 2 + 8 * by2 f (p + 14 + by4 f (p + 10))))), (13, .int (nI i))], [.ref m0], M1)) rfl rfl rfl ?_
              refine ps_st (S' := (302, [(14, .int (nI (p + 14 + by4 f (p + 10) + 2 + 8 * i))), (0, .ref m0), (2, .int (nI (p + 6))), (4, .int (nI x)), (5, .long (nL (by4 f (p + 10)))), (8, .int (nI (by2 f (p + 14 + by4 f (p + 10))))), (9, .int (nI (p + 14 + by4 f (p + 10) + 2))), (10, .int (nI (p + 14 + by4 f (p + 10) + 2 + 8 * by2 f (p + 14 + by4 f (p + 10))))), (13, .int (nI i))], [.int (nI (p + 14 + by4 f (p + 10) + 2 + 8 * i)), .ref m0], M1)) rfl rfl rfl ?_
              refine ps_st (S' := (303, [(14, .int (nI (p + 14 + by4 f (p + 10) + 2 + 8 * i))), (0, .ref m0), (2, .int (nI (p + 6))), (4, .int (nI x)), (5, .long (nL (by4 f (p + 10)))), (8, .int (nI (by2 f (p + 14 + by4 f (p + 10))))), (9, .int (nI (p + 14 + by4 f (p + 10) + 2))), (10, .int (nI (p + 14 + by4 f (p + 10) + 2 + 8 * by2 f (p + 14 + by4 f (p + 10))))), (13, .int (nI i))], [.int 4, .int (nI (p + 14 + by4 f (p + 10) + 2 + 8 * i)), .ref m0], M1)) rfl rfl rfl ?_
              refine ps_st (S' := (304, [(14, .int (nI (p + 14 + by4 f (p + 10) + 2 + 8 * i))), (0, .ref m0), (2, .int (nI (p + 6))), (4, .int (nI x)), (5, .long (nL (by4 f (p + 10)))), (8, .int (nI (by2 f (p + 14 + by4 f (p + 10))))), (9, .int (nI (p + 14 + by4 f (p + 10) + 2))), (10, .int (nI (p + 14 + by4 f (p + 10) + 2 + 8 * by2 f (p + 14 + by4 f (p + 10))))), (13, .int (nI i))], [.int ((nI (p + 14 + by4 f (p + 10) + 2 + 8 * i)) + 4), .ref m0], M1)) rfl rfl rfl ?_
              rw [nI_add1 (p := p + 14 + by4 f (p + 10) + 2 + 8 * i) (k := 4) (x := 4) rfl (by omega)]
              show pl _ _ _ (_, [(14, .int (nI (p + 14 + by4 f (p + 10) + 2 + 8 * i))), (0, .ref m0), (2, .int (nI (p + 6))), (4, .int (nI x)), (5, .long (nL (by4 f (p + 10)))), (8, .int (nI (by2 f (p + 14 + by4 f (p + 10))))), (9, .int (nI (p + 14 + by4 f (p + 10) + 2))), (10, .int (nI (p + 14 + by4 f (p + 10) + 2 + 8 * by2 f (p + 14 + by4 f (p + 10))))), (13, .int (nI i))], [.int (nI (p + 14 + by4 f (p + 10) + 2 + 8 * i + 4)), .ref m0], M1) _
              refine pl_call (a := [.ref m0, .int (nI (p + 14 + by4 f (p + 10) + 2 + 8 * i + 4))]) (rest := []) rfl rfl rfl (rd_u2 (n := n) (f := f) (p := (p + 14 + by4 f (p + 10) + 2 + 8 * i + 4)) hR1 hF1 (by omega)) (fun v124 M125 q126 => ?_)
              obtain ⟨rfl, rfl⟩ := q126
              show pl _ _ _ (307, [(14, .int (nI (p + 14 + by4 f (p + 10) + 2 + 8 * i))), (0, .ref m0), (2, .int (nI (p + 6))), (4, .int (nI x)), (5, .long (nL (by4 f (p + 10)))), (8, .int (nI (by2 f (p + 14 + by4 f (p + 10))))), (9, .int (nI (p + 14 + by4 f (p + 10) + 2))), (10, .int (nI (p + 14 + by4 f (p + 10) + 2 + 8 * by2 f (p + 14 + by4 f (p + 10))))), (13, .int (nI i))], [.int (nI (by2 f (p + 14 + by4 f (p + 10) + 2 + 8 * i + 4)))], M1) _
              have hu_304 := by2_lt f (p + 14 + by4 f (p + 10) + 2 + 8 * i + 4)
              refine ps_st (S' := (308, [(14, .int (nI (p + 14 + by4 f (p + 10) + 2 + 8 * i))), (0, .ref m0), (2, .int (nI (p + 6))), (4, .int (nI x)), (5, .long (nL (by4 f (p + 10)))), (8, .int (nI (by2 f (p + 14 + by4 f (p + 10))))), (9, .int (nI (p + 14 + by4 f (p + 10) + 2))), (10, .int (nI (p + 14 + by4 f (p + 10) + 2 + 8 * by2 f (p + 14 + by4 f (p + 10))))), (13, .int (nI i))], [.long (Int32.toInt64 (nI (by2 f (p + 14 + by4 f (p + 10) + 2 + 8 * i + 4))))], M1)) rfl rfl rfl ?_
              rw [i2l_nL (p := by2 f (p + 14 + by4 f (p + 10) + 2 + 8 * i + 4)) (by omega)]
              show pl _ _ _ (_, [(14, .int (nI (p + 14 + by4 f (p + 10) + 2 + 8 * i))), (0, .ref m0), (2, .int (nI (p + 6))), (4, .int (nI x)), (5, .long (nL (by4 f (p + 10)))), (8, .int (nI (by2 f (p + 14 + by4 f (p + 10))))), (9, .int (nI (p + 14 + by4 f (p + 10) + 2))), (10, .int (nI (p + 14 + by4 f (p + 10) + 2 + 8 * by2 f (p + 14 + by4 f (p + 10))))), (13, .int (nI i))], [.long (nL (by2 f (p + 14 + by4 f (p + 10) + 2 + 8 * i + 4)))], M1) _
              refine ps_st (S' := (310, [(14, .int (nI (p + 14 + by4 f (p + 10) + 2 + 8 * i))), (0, .ref m0), (2, .int (nI (p + 6))), (4, .int (nI x)), (5, .long (nL (by4 f (p + 10)))), (8, .int (nI (by2 f (p + 14 + by4 f (p + 10))))), (9, .int (nI (p + 14 + by4 f (p + 10) + 2))), (10, .int (nI (p + 14 + by4 f (p + 10) + 2 + 8 * by2 f (p + 14 + by4 f (p + 10))))), (13, .int (nI i))], [.long (nL (by4 f (p + 10))), .long (nL (by2 f (p + 14 + by4 f (p + 10) + 2 + 8 * i + 4)))], M1)) rfl rfl rfl ?_
              refine ps_st (S' := (311, [(14, .int (nI (p + 14 + by4 f (p + 10) + 2 + 8 * i))), (0, .ref m0), (2, .int (nI (p + 6))), (4, .int (nI x)), (5, .long (nL (by4 f (p + 10)))), (8, .int (nI (by2 f (p + 14 + by4 f (p + 10))))), (9, .int (nI (p + 14 + by4 f (p + 10) + 2))), (10, .int (nI (p + 14 + by4 f (p + 10) + 2 + 8 * by2 f (p + 14 + by4 f (p + 10))))), (13, .int (nI i))], [.int (lg_cmp (nL (by2 f (p + 14 + by4 f (p + 10) + 2 + 8 * i + 4))) (nL (by4 f (p + 10))))], M1)) rfl rfl rfl ?_
              refine ps_if (S1 := (344, [], [], M1)) (S2 := (314, [(14, .int (nI (p + 14 + by4 f (p + 10) + 2 + 8 * i))), (0, .ref m0), (2, .int (nI (p + 6))), (4, .int (nI x)), (5, .long (nL (by4 f (p + 10)))), (8, .int (nI (by2 f (p + 14 + by4 f (p + 10))))), (9, .int (nI (p + 14 + by4 f (p + 10) + 2))), (10, .int (nI (p + 14 + by4 f (p + 10) + 2 + 8 * by2 f (p + 14 + by4 f (p + 10))))), (13, .int (nI i))], [], M1)) rfl rfl rfl (fun c_311 => ?_) (fun c_311 => ?_)
              · have n_311 : by4 f (p + 10) ≤ by2 f (p + 14 + by4 f (p + 10) + 2 + 8 * i + 4) := (cL_ge (p := by2 f (p + 14 + by4 f (p + 10) + 2 + 8 * i + 4)) (k := by4 f (p + 10)) (x := (nL (by2 f (p + 14 + by4 f (p + 10) + 2 + 8 * i + 4)))) (y := (nL (by4 f (p + 10)))) rfl rfl (by omega) (by omega)).mp (of_decide_eq_true c_311)
                refine ps_st (S' := (346, [], [.int 43], M1)) rfl rfl rfl ?_
                exact ps_ret rfl rfl (Or.inr (Or.inl ⟨43, I1, R1, hce, by
                    unfold cdS
                    rw [if_neg h41, if_neg h42, if_pos (by rw [← hw9, rwA_st (i := i) (by omega), if_pos (by unfold rwN; rw [if_neg (by omega)])])], by decide, rfl, hR1, hEI1, hER1⟩))
              · have n_311 : ¬ (by4 f (p + 10) ≤ by2 f (p + 14 + by4 f (p + 10) + 2 + 8 * i + 4)) := fun h9 => of_decide_eq_false c_311 ((cL_ge (p := by2 f (p + 14 + by4 f (p + 10) + 2 + 8 * i + 4)) (k := by4 f (p + 10)) (x := (nL (by2 f (p + 14 + by4 f (p + 10) + 2 + 8 * i + 4)))) (y := (nL (by4 f (p + 10)))) rfl rfl (by omega) (by omega)).mpr h9)
                refine ps_st (S' := (315, [(14, .int (nI (p + 14 + by4 f (p + 10) + 2 + 8 * i))), (0, .ref m0), (2, .int (nI (p + 6))), (4, .int (nI x)), (5, .long (nL (by4 f (p + 10)))), (8, .int (nI (by2 f (p + 14 + by4 f (p + 10))))), (9, .int (nI (p + 14 + by4 f (p + 10) + 2))), (10, .int (nI (p + 14 + by4 f (p + 10) + 2 + 8 * by2 f (p + 14 + by4 f (p + 10))))), (13, .int (nI i))], [.ref m0], M1)) rfl rfl rfl ?_
                refine ps_st (S' := (317, [(14, .int (nI (p + 14 + by4 f (p + 10) + 2 + 8 * i))), (0, .ref m0), (2, .int (nI (p + 6))), (4, .int (nI x)), (5, .long (nL (by4 f (p + 10)))), (8, .int (nI (by2 f (p + 14 + by4 f (p + 10))))), (9, .int (nI (p + 14 + by4 f (p + 10) + 2))), (10, .int (nI (p + 14 + by4 f (p + 10) + 2 + 8 * by2 f (p + 14 + by4 f (p + 10))))), (13, .int (nI i))], [.int (nI (p + 14 + by4 f (p + 10) + 2 + 8 * i)), .ref m0], M1)) rfl rfl rfl ?_
                refine ps_st (S' := (319, [(14, .int (nI (p + 14 + by4 f (p + 10) + 2 + 8 * i))), (0, .ref m0), (2, .int (nI (p + 6))), (4, .int (nI x)), (5, .long (nL (by4 f (p + 10)))), (8, .int (nI (by2 f (p + 14 + by4 f (p + 10))))), (9, .int (nI (p + 14 + by4 f (p + 10) + 2))), (10, .int (nI (p + 14 + by4 f (p + 10) + 2 + 8 * by2 f (p + 14 + by4 f (p + 10))))), (13, .int (nI i))], [.int 6, .int (nI (p + 14 + by4 f (p + 10) + 2 + 8 * i)), .ref m0], M1)) rfl rfl rfl ?_
                refine ps_st (S' := (320, [(14, .int (nI (p + 14 + by4 f (p + 10) + 2 + 8 * i))), (0, .ref m0), (2, .int (nI (p + 6))), (4, .int (nI x)), (5, .long (nL (by4 f (p + 10)))), (8, .int (nI (by2 f (p + 14 + by4 f (p + 10))))), (9, .int (nI (p + 14 + by4 f (p + 10) + 2))), (10, .int (nI (p + 14 + by4 f (p + 10) + 2 + 8 * by2 f (p + 14 + by4 f (p + 10))))), (13, .int (nI i))], [.int ((nI (p + 14 + by4 f (p + 10) + 2 + 8 * i)) + 6), .ref m0], M1)) rfl rfl rfl ?_
                rw [nI_add1 (p := p + 14 + by4 f (p + 10) + 2 + 8 * i) (k := 6) (x := 6) rfl (by omega)]
                show pl _ _ _ (_, [(14, .int (nI (p + 14 + by4 f (p + 10) + 2 + 8 * i))), (0, .ref m0), (2, .int (nI (p + 6))), (4, .int (nI x)), (5, .long (nL (by4 f (p + 10)))), (8, .int (nI (by2 f (p + 14 + by4 f (p + 10))))), (9, .int (nI (p + 14 + by4 f (p + 10) + 2))), (10, .int (nI (p + 14 + by4 f (p + 10) + 2 + 8 * by2 f (p + 14 + by4 f (p + 10))))), (13, .int (nI i))], [.int (nI (p + 14 + by4 f (p + 10) + 2 + 8 * i + 6)), .ref m0], M1) _
                refine pl_call (a := [.ref m0, .int (nI (p + 14 + by4 f (p + 10) + 2 + 8 * i + 6))]) (rest := []) rfl rfl rfl (rd_u2 (n := n) (f := f) (p := (p + 14 + by4 f (p + 10) + 2 + 8 * i + 6)) hR1 hF1 (by omega)) (fun v127 M128 q129 => ?_)
                obtain ⟨rfl, rfl⟩ := q129
                show pl _ _ _ (323, [(14, .int (nI (p + 14 + by4 f (p + 10) + 2 + 8 * i))), (0, .ref m0), (2, .int (nI (p + 6))), (4, .int (nI x)), (5, .long (nL (by4 f (p + 10)))), (8, .int (nI (by2 f (p + 14 + by4 f (p + 10))))), (9, .int (nI (p + 14 + by4 f (p + 10) + 2))), (10, .int (nI (p + 14 + by4 f (p + 10) + 2 + 8 * by2 f (p + 14 + by4 f (p + 10))))), (13, .int (nI i))], [.int (nI (by2 f (p + 14 + by4 f (p + 10) + 2 + 8 * i + 6)))], M1) _
                have hu_320 := by2_lt f (p + 14 + by4 f (p + 10) + 2 + 8 * i + 6)
                refine ps_if (S1 := (347, [(0, .ref m0), (2, .int (nI (p + 6))), (4, .int (nI x)), (5, .long (nL (by4 f (p + 10)))), (8, .int (nI (by2 f (p + 14 + by4 f (p + 10))))), (9, .int (nI (p + 14 + by4 f (p + 10) + 2))), (10, .int (nI (p + 14 + by4 f (p + 10) + 2 + 8 * by2 f (p + 14 + by4 f (p + 10))))), (13, .int (nI i))], [], M1)) (S2 := (326, [(14, .int (nI (p + 14 + by4 f (p + 10) + 2 + 8 * i))), (0, .ref m0), (2, .int (nI (p + 6))), (4, .int (nI x)), (5, .long (nL (by4 f (p + 10)))), (8, .int (nI (by2 f (p + 14 + by4 f (p + 10))))), (9, .int (nI (p + 14 + by4 f (p + 10) + 2))), (10, .int (nI (p + 14 + by4 f (p + 10) + 2 + 8 * by2 f (p + 14 + by4 f (p + 10))))), (13, .int (nI i))], [], M1)) rfl rfl rfl (fun c_323 => ?_) (fun c_323 => ?_)
                · have c_323 : (nI (by2 f (p + 14 + by4 f (p + 10) + 2 + 8 * i + 6))) = 0 := of_decide_eq_true c_323
                  have n_323 : by2 f (p + 14 + by4 f (p + 10) + 2 + 8 * i + 6) = 0 := (eq_nI (p := by2 f (p + 14 + by4 f (p + 10) + 2 + 8 * i + 6)) (n := 0) (Nat.lt_trans (by2_lt _ _) (by decide)) (by decide)).mp c_323
                  refine ps_st (S' := (350, [(13, .int ((nI i) + 1)), (0, .ref m0), (2, .int (nI (p + 6))), (4, .int (nI x)), (5, .long (nL (by4 f (p + 10)))), (8, .int (nI (by2 f (p + 14 + by4 f (p + 10))))), (9, .int (nI (p + 14 + by4 f (p + 10) + 2))), (10, .int (nI (p + 14 + by4 f (p + 10) + 2 + 8 * by2 f (p + 14 + by4 f (p + 10)))))], [], M1)) rfl rfl rfl ?_
                  rw [nI_add1 (p := i) (k := 1) (x := 1) rfl (by omega)]
                  show pl _ _ _ (_, [(13, .int (nI (i + 1))), (0, .ref m0), (2, .int (nI (p + 6))), (4, .int (nI x)), (5, .long (nL (by4 f (p + 10)))), (8, .int (nI (by2 f (p + 14 + by4 f (p + 10))))), (9, .int (nI (p + 14 + by4 f (p + 10) + 2))), (10, .int (nI (p + 14 + by4 f (p + 10) + 2 + 8 * by2 f (p + 14 + by4 f (p + 10)))))], [], M1) _
                  refine ps_st (S' := (250, [(0, .ref m0), (2, .int (nI (p + 6))), (4, .int (nI x)), (5, .long (nL (by4 f (p + 10)))), (8, .int (nI (by2 f (p + 14 + by4 f (p + 10))))), (9, .int (nI (p + 14 + by4 f (p + 10) + 2))), (10, .int (nI (p + 14 + by4 f (p + 10) + 2 + 8 * by2 f (p + 14 + by4 f (p + 10))))), (13, .int (nI (i + 1)))], [], M1)) rfl rfl rfl ?_
                  exact ih.2 (i + 1) M1 I1 R1 hR1 hEI1 hER1 hl51 hl52 hl53 hF1 hY1 hP1 hK1 hW1 (hr) (hb) (hce) (h41) (h42) (by omega) (by
                      rw [← hw9, rwA_st (i := i) (by omega), if_neg (by unfold rwN; rw [if_pos (by omega)]; decide)])
                · have c_323 : ¬ ((nI (by2 f (p + 14 + by4 f (p + 10) + 2 + 8 * i + 6))) = 0) := of_decide_eq_false c_323
                  have n_323 : ¬ (by2 f (p + 14 + by4 f (p + 10) + 2 + 8 * i + 6) = 0) := fun h9 => c_323 ((eq_nI (p := by2 f (p + 14 + by4 f (p + 10) + 2 + 8 * i + 6)) (n := 0) (Nat.lt_trans (by2_lt _ _) (by decide)) (by decide)).mpr h9)
                  refine ps_st (S' := (327, [(14, .int (nI (p + 14 + by4 f (p + 10) + 2 + 8 * i))), (0, .ref m0), (2, .int (nI (p + 6))), (4, .int (nI x)), (5, .long (nL (by4 f (p + 10)))), (8, .int (nI (by2 f (p + 14 + by4 f (p + 10))))), (9, .int (nI (p + 14 + by4 f (p + 10) + 2))), (10, .int (nI (p + 14 + by4 f (p + 10) + 2 + 8 * by2 f (p + 14 + by4 f (p + 10))))), (13, .int (nI i))], [.ref m0], M1)) rfl rfl rfl ?_
                  refine ps_st (S' := (328, [(14, .int (nI (p + 14 + by4 f (p + 10) + 2 + 8 * i))), (0, .ref m0), (2, .int (nI (p + 6))), (4, .int (nI x)), (5, .long (nL (by4 f (p + 10)))), (8, .int (nI (by2 f (p + 14 + by4 f (p + 10))))), (9, .int (nI (p + 14 + by4 f (p + 10) + 2))), (10, .int (nI (p + 14 + by4 f (p + 10) + 2 + 8 * by2 f (p + 14 + by4 f (p + 10))))), (13, .int (nI i))], [.ref m0, .ref m0], M1)) rfl rfl rfl ?_
                  refine ps_st (S' := (330, [(14, .int (nI (p + 14 + by4 f (p + 10) + 2 + 8 * i))), (0, .ref m0), (2, .int (nI (p + 6))), (4, .int (nI x)), (5, .long (nL (by4 f (p + 10)))), (8, .int (nI (by2 f (p + 14 + by4 f (p + 10))))), (9, .int (nI (p + 14 + by4 f (p + 10) + 2))), (10, .int (nI (p + 14 + by4 f (p + 10) + 2 + 8 * by2 f (p + 14 + by4 f (p + 10))))), (13, .int (nI i))], [.int (nI (p + 14 + by4 f (p + 10) + 2 + 8 * i)), .ref m0, .ref m0], M1)) rfl rfl rfl ?_
                  refine ps_st (S' := (332, [(14, .int (nI (p + 14 + by4 f (p + 10) + 2 + 8 * i))), (0, .ref m0), (2, .int (nI (p + 6))), (4, .int (nI x)), (5, .long (nL (by4 f (p + 10)))), (8, .int (nI (by2 f (p + 14 + by4 f (p + 10))))), (9, .int (nI (p + 14 + by4 f (p + 10) + 2))), (10, .int (nI (p + 14 + by4 f (p + 10) + 2 + 8 * by2 f (p + 14 + by4 f (p + 10))))), (13, .int (nI i))], [.int 6, .int (nI (p + 14 + by4 f (p + 10) + 2 + 8 * i)), .ref m0, .ref m0], M1)) rfl rfl rfl ?_
                  refine ps_st (S' := (333, [(14, .int (nI (p + 14 + by4 f (p + 10) + 2 + 8 * i))), (0, .ref m0), (2, .int (nI (p + 6))), (4, .int (nI x)), (5, .long (nL (by4 f (p + 10)))), (8, .int (nI (by2 f (p + 14 + by4 f (p + 10))))), (9, .int (nI (p + 14 + by4 f (p + 10) + 2))), (10, .int (nI (p + 14 + by4 f (p + 10) + 2 + 8 * by2 f (p + 14 + by4 f (p + 10))))), (13, .int (nI i))], [.int ((nI (p + 14 + by4 f (p + 10) + 2 + 8 * i)) + 6), .ref m0, .ref m0], M1)) rfl rfl rfl ?_
                  rw [nI_add1 (p := p + 14 + by4 f (p + 10) + 2 + 8 * i) (k := 6) (x := 6) rfl (by omega)]
                  show pl _ _ _ (_, [(14, .int (nI (p + 14 + by4 f (p + 10) + 2 + 8 * i))), (0, .ref m0), (2, .int (nI (p + 6))), (4, .int (nI x)), (5, .long (nL (by4 f (p + 10)))), (8, .int (nI (by2 f (p + 14 + by4 f (p + 10))))), (9, .int (nI (p + 14 + by4 f (p + 10) + 2))), (10, .int (nI (p + 14 + by4 f (p + 10) + 2 + 8 * by2 f (p + 14 + by4 f (p + 10))))), (13, .int (nI i))], [.int (nI (p + 14 + by4 f (p + 10) + 2 + 8 * i + 6)), .ref m0, .ref m0], M1) _
                  refine pl_call (a := [.ref m0, .int (nI (p + 14 + by4 f (p + 10) + 2 + 8 * i + 6))]) (rest := [.ref m0]) rfl rfl rfl (rd_u2 (n := n) (f := f) (p := (p + 14 + by4 f (p + 10) + 2 + 8 * i + 6)) hR1 hF1 (by omega)) (fun v130 M131 q132 => ?_)
                  obtain ⟨rfl, rfl⟩ := q132
                  show pl _ _ _ (336, [(14, .int (nI (p + 14 + by4 f (p + 10) + 2 + 8 * i))), (0, .ref m0), (2, .int (nI (p + 6))), (4, .int (nI x)), (5, .long (nL (by4 f (p + 10)))), (8, .int (nI (by2 f (p + 14 + by4 f (p + 10))))), (9, .int (nI (p + 14 + by4 f (p + 10) + 2))), (10, .int (nI (p + 14 + by4 f (p + 10) + 2 + 8 * by2 f (p + 14 + by4 f (p + 10))))), (13, .int (nI i))], [.int (nI (by2 f (p + 14 + by4 f (p + 10) + 2 + 8 * i + 6))), .ref m0], M1) _
                  have hu_333 := by2_lt f (p + 14 + by4 f (p + 10) + 2 + 8 * i + 6)
                  refine pl_call (a := [.ref m0, .int (nI (by2 f (p + 14 + by4 f (p + 10) + 2 + 8 * i + 6)))]) (rest := []) rfl rfl rfl (rd_tag (n := n) (f := f) (tx := tx) (cN := cN) (A := A) (N := N) (mj := mj) (E := E) (k := (by2 f (p + 14 + by4 f (p + 10) + 2 + 8 * i + 6))) hR1 hl51 hl52 hl53 hF1 hY1 hP1 (hEP) (hN) (hmj) (by2_lt _ _)) (fun v133 M134 q135 => ?_)
                  obtain ⟨rfl, rfl⟩ := q135
                  show pl _ _ _ (339, [(14, .int (nI (p + 14 + by4 f (p + 10) + 2 + 8 * i))), (0, .ref m0), (2, .int (nI (p + 6))), (4, .int (nI x)), (5, .long (nL (by4 f (p + 10)))), (8, .int (nI (by2 f (p + 14 + by4 f (p + 10))))), (9, .int (nI (p + 14 + by4 f (p + 10) + 2))), (10, .int (nI (p + 14 + by4 f (p + 10) + 2 + 8 * by2 f (p + 14 + by4 f (p + 10))))), (13, .int (nI i))], [.int (nI (tg f E (by2 f (p + 14 + by4 f (p + 10) + 2 + 8 * i + 6))))], M1) _
                  have htg_336 := tg_lt f E (by2 f (p + 14 + by4 f (p + 10) + 2 + 8 * i + 6))
                  refine ps_st (S' := (341, [(14, .int (nI (p + 14 + by4 f (p + 10) + 2 + 8 * i))), (0, .ref m0), (2, .int (nI (p + 6))), (4, .int (nI x)), (5, .long (nL (by4 f (p + 10)))), (8, .int (nI (by2 f (p + 14 + by4 f (p + 10))))), (9, .int (nI (p + 14 + by4 f (p + 10) + 2))), (10, .int (nI (p + 14 + by4 f (p + 10) + 2 + 8 * by2 f (p + 14 + by4 f (p + 10))))), (13, .int (nI i))], [.int 7, .int (nI (tg f E (by2 f (p + 14 + by4 f (p + 10) + 2 + 8 * i + 6))))], M1)) rfl rfl rfl ?_
                  refine ps_if2 (S1 := (347, [(0, .ref m0), (2, .int (nI (p + 6))), (4, .int (nI x)), (5, .long (nL (by4 f (p + 10)))), (8, .int (nI (by2 f (p + 14 + by4 f (p + 10))))), (9, .int (nI (p + 14 + by4 f (p + 10) + 2))), (10, .int (nI (p + 14 + by4 f (p + 10) + 2 + 8 * by2 f (p + 14 + by4 f (p + 10))))), (13, .int (nI i))], [], M1)) (S2 := (344, [], [], M1)) rfl rfl rfl (fun c_341 => ?_) (fun c_341 => ?_)
                  · have c_341 : (nI (tg f E (by2 f (p + 14 + by4 f (p + 10) + 2 + 8 * i + 6)))) = 7 := of_decide_eq_true c_341
                    have n_341 : tg f E (by2 f (p + 14 + by4 f (p + 10) + 2 + 8 * i + 6)) = 7 := (eq_nI (p := tg f E (by2 f (p + 14 + by4 f (p + 10) + 2 + 8 * i + 6))) (n := 7) (Nat.lt_trans (tg_lt _ _ _) (by decide)) (by decide)).mp c_341
                    refine ps_st (S' := (350, [(13, .int ((nI i) + 1)), (0, .ref m0), (2, .int (nI (p + 6))), (4, .int (nI x)), (5, .long (nL (by4 f (p + 10)))), (8, .int (nI (by2 f (p + 14 + by4 f (p + 10))))), (9, .int (nI (p + 14 + by4 f (p + 10) + 2))), (10, .int (nI (p + 14 + by4 f (p + 10) + 2 + 8 * by2 f (p + 14 + by4 f (p + 10)))))], [], M1)) rfl rfl rfl ?_
                    rw [nI_add1 (p := i) (k := 1) (x := 1) rfl (by omega)]
                    show pl _ _ _ (_, [(13, .int (nI (i + 1))), (0, .ref m0), (2, .int (nI (p + 6))), (4, .int (nI x)), (5, .long (nL (by4 f (p + 10)))), (8, .int (nI (by2 f (p + 14 + by4 f (p + 10))))), (9, .int (nI (p + 14 + by4 f (p + 10) + 2))), (10, .int (nI (p + 14 + by4 f (p + 10) + 2 + 8 * by2 f (p + 14 + by4 f (p + 10)))))], [], M1) _
                    refine ps_st (S' := (250, [(0, .ref m0), (2, .int (nI (p + 6))), (4, .int (nI x)), (5, .long (nL (by4 f (p + 10)))), (8, .int (nI (by2 f (p + 14 + by4 f (p + 10))))), (9, .int (nI (p + 14 + by4 f (p + 10) + 2))), (10, .int (nI (p + 14 + by4 f (p + 10) + 2 + 8 * by2 f (p + 14 + by4 f (p + 10))))), (13, .int (nI (i + 1)))], [], M1)) rfl rfl rfl ?_
                    exact ih.2 (i + 1) M1 I1 R1 hR1 hEI1 hER1 hl51 hl52 hl53 hF1 hY1 hP1 hK1 hW1 (hr) (hb) (hce) (h41) (h42) (by omega) (by
                        rw [← hw9, rwA_st (i := i) (by omega), if_neg (by unfold rwN; rw [if_pos (by omega)]; decide)])
                  · have c_341 : ¬ ((nI (tg f E (by2 f (p + 14 + by4 f (p + 10) + 2 + 8 * i + 6)))) = 7) := of_decide_eq_false c_341
                    have n_341 : ¬ (tg f E (by2 f (p + 14 + by4 f (p + 10) + 2 + 8 * i + 6)) = 7) := fun h9 => c_341 ((eq_nI (p := tg f E (by2 f (p + 14 + by4 f (p + 10) + 2 + 8 * i + 6))) (n := 7) (Nat.lt_trans (tg_lt _ _ _) (by decide)) (by decide)).mpr h9)
                    refine ps_st (S' := (346, [], [.int 43], M1)) rfl rfl rfl ?_
                    exact ps_ret rfl rfl (Or.inr (Or.inl ⟨43, I1, R1, hce, by
                        unfold cdS
                        rw [if_neg h41, if_neg h42, if_pos (by rw [← hw9, rwA_st (i := i) (by omega), if_pos (by unfold rwN; rw [if_neg (by omega)])])], by decide, rfl, hR1, hEI1, hER1⟩))
  refine ps_st (S' := (1, [(0, .ref m0), (1, .int t), (2, .int (nI (p + 6))), (3, .int (nI e)), (4, .int (nI x))], [.int (nI e)], M)) rfl rfl rfl ?_
  refine ps_st (S' := (2, [(0, .ref m0), (1, .int t), (2, .int (nI (p + 6))), (3, .int (nI e)), (4, .int (nI x))], [.int (nI (p + 6)), .int (nI e)], M)) rfl rfl rfl ?_
  refine ps_st (S' := (3, [(0, .ref m0), (1, .int t), (2, .int (nI (p + 6))), (3, .int (nI e)), (4, .int (nI x))], [.int ((nI e) - (nI (p + 6)))], M)) rfl rfl rfl ?_
  refine ps_st (S' := (5, [(0, .ref m0), (1, .int t), (2, .int (nI (p + 6))), (3, .int (nI e)), (4, .int (nI x))], [.int 8, .int ((nI e) - (nI (p + 6)))], M)) rfl rfl rfl ?_
  refine ps_if2 (S1 := (11, [(0, .ref m0), (1, .int t), (2, .int (nI (p + 6))), (3, .int (nI e)), (4, .int (nI x))], [], M)) (S2 := (8, [(0, .ref m0), (1, .int t), (2, .int (nI (p + 6))), (3, .int (nI e)), (4, .int (nI x))], [], M)) rfl rfl rfl (fun c_5 => ?_) (fun c_5 => ?_)
  · have c_5 : 8 ≤ ((nI e) - (nI (p + 6))) := of_decide_eq_true c_5
    have n_5 : 8 + (p + 6) ≤ e := (le_sub1 (e := e) (p := p + 6) (k := 8) (by omega) (by omega) (by omega)).mp c_5
    refine ps_st (S' := (12, [(0, .ref m0), (1, .int t), (2, .int (nI (p + 6))), (3, .int (nI e)), (4, .int (nI x))], [.ref m0], M)) rfl rfl rfl ?_
    refine ps_st (S' := (13, [(0, .ref m0), (1, .int t), (2, .int (nI (p + 6))), (3, .int (nI e)), (4, .int (nI x))], [.int (nI (p + 6)), .ref m0], M)) rfl rfl rfl ?_
    refine ps_st (S' := (14, [(0, .ref m0), (1, .int t), (2, .int (nI (p + 6))), (3, .int (nI e)), (4, .int (nI x))], [.int 4, .int (nI (p + 6)), .ref m0], M)) rfl rfl rfl ?_
    refine ps_st (S' := (15, [(0, .ref m0), (1, .int t), (2, .int (nI (p + 6))), (3, .int (nI e)), (4, .int (nI x))], [.int ((nI (p + 6)) + 4), .ref m0], M)) rfl rfl rfl ?_
    rw [nI_add1 (p := p + 6) (k := 4) (x := 4) rfl (by omega)]
    show pl _ _ _ (_, [(0, .ref m0), (1, .int t), (2, .int (nI (p + 6))), (3, .int (nI e)), (4, .int (nI x))], [.int (nI (p + 10)), .ref m0], M) _
    refine pl_call (a := [.ref m0, .int (nI (p + 10))]) (rest := []) rfl rfl rfl (rd_u4 (n := n) (f := f) (p := (p + 10)) hR hF (by omega)) (fun v136 M137 q138 => ?_)
    obtain ⟨rfl, rfl⟩ := q138
    show pl _ _ _ (18, [(0, .ref m0), (1, .int t), (2, .int (nI (p + 6))), (3, .int (nI e)), (4, .int (nI x))], [.long (nL (by4 f (p + 10)))], M) _
    have hu_15 := by4_lt f (p + 10)
    refine ps_st (S' := (20, [(5, .long (nL (by4 f (p + 10)))), (0, .ref m0), (1, .int t), (2, .int (nI (p + 6))), (3, .int (nI e)), (4, .int (nI x))], [], M)) rfl rfl rfl ?_
    refine ps_st (S' := (22, [(5, .long (nL (by4 f (p + 10)))), (0, .ref m0), (1, .int t), (2, .int (nI (p + 6))), (3, .int (nI e)), (4, .int (nI x))], [.long (nL (by4 f (p + 10)))], M)) rfl rfl rfl ?_
    refine ps_st (S' := (23, [(5, .long (nL (by4 f (p + 10)))), (0, .ref m0), (1, .int t), (2, .int (nI (p + 6))), (3, .int (nI e)), (4, .int (nI x))], [.int (nI e), .long (nL (by4 f (p + 10)))], M)) rfl rfl rfl ?_
    refine ps_st (S' := (24, [(5, .long (nL (by4 f (p + 10)))), (0, .ref m0), (1, .int t), (2, .int (nI (p + 6))), (3, .int (nI e)), (4, .int (nI x))], [.int (nI (p + 6)), .int (nI e), .long (nL (by4 f (p + 10)))], M)) rfl rfl rfl ?_
    refine ps_st (S' := (25, [(5, .long (nL (by4 f (p + 10)))), (0, .ref m0), (1, .int t), (2, .int (nI (p + 6))), (3, .int (nI e)), (4, .int (nI x))], [.int ((nI e) - (nI (p + 6))), .long (nL (by4 f (p + 10)))], M)) rfl rfl rfl ?_
    rw [nI_sub1 (p := e) (k := p + 6) (x := (nI (p + 6))) rfl (by omega) (by omega)]
    show pl _ _ _ (_, [(5, .long (nL (by4 f (p + 10)))), (0, .ref m0), (1, .int t), (2, .int (nI (p + 6))), (3, .int (nI e)), (4, .int (nI x))], [.int (nI (e - (p + 6))), .long (nL (by4 f (p + 10)))], M) _
    refine ps_st (S' := (27, [(5, .long (nL (by4 f (p + 10)))), (0, .ref m0), (1, .int t), (2, .int (nI (p + 6))), (3, .int (nI e)), (4, .int (nI x))], [.int 8, .int (nI (e - (p + 6))), .long (nL (by4 f (p + 10)))], M)) rfl rfl rfl ?_
    refine ps_st (S' := (28, [(5, .long (nL (by4 f (p + 10)))), (0, .ref m0), (1, .int t), (2, .int (nI (p + 6))), (3, .int (nI e)), (4, .int (nI x))], [.int ((nI (e - (p + 6))) - 8), .long (nL (by4 f (p + 10)))], M)) rfl rfl rfl ?_
    rw [nI_sub1 (p := e - (p + 6)) (k := 8) (x := 8) rfl (by omega) (by omega)]
    show pl _ _ _ (_, [(5, .long (nL (by4 f (p + 10)))), (0, .ref m0), (1, .int t), (2, .int (nI (p + 6))), (3, .int (nI e)), (4, .int (nI x))], [.int (nI ((e - (p + 6)) - 8)), .long (nL (by4 f (p + 10)))], M) _
    refine ps_st (S' := (29, [(5, .long (nL (by4 f (p + 10)))), (0, .ref m0), (1, .int t), (2, .int (nI (p + 6))), (3, .int (nI e)), (4, .int (nI x))], [.long (Int32.toInt64 (nI ((e - (p + 6)) - 8))), .long (nL (by4 f (p + 10)))], M)) rfl rfl rfl ?_
    rw [i2l_nL (p := (e - (p + 6)) - 8) (by omega)]
    show pl _ _ _ (_, [(5, .long (nL (by4 f (p + 10)))), (0, .ref m0), (1, .int t), (2, .int (nI (p + 6))), (3, .int (nI e)), (4, .int (nI x))], [.long (nL ((e - (p + 6)) - 8)), .long (nL (by4 f (p + 10)))], M) _
    refine ps_st (S' := (30, [(5, .long (nL (by4 f (p + 10)))), (0, .ref m0), (1, .int t), (2, .int (nI (p + 6))), (3, .int (nI e)), (4, .int (nI x))], [.int (lg_cmp (nL (by4 f (p + 10))) (nL ((e - (p + 6)) - 8)))], M)) rfl rfl rfl ?_
    refine ps_if (S1 := (36, [(5, .long (nL (by4 f (p + 10)))), (0, .ref m0), (1, .int t), (2, .int (nI (p + 6))), (3, .int (nI e)), (4, .int (nI x))], [], M)) (S2 := (33, [(5, .long (nL (by4 f (p + 10)))), (0, .ref m0), (1, .int t), (2, .int (nI (p + 6))), (3, .int (nI e)), (4, .int (nI x))], [], M)) rfl rfl rfl (fun c_30 => ?_) (fun c_30 => ?_)
    · have n_30 : by4 f (p + 10) ≤ (e - (p + 6)) - 8 := (cL_le (p := by4 f (p + 10)) (k := (e - (p + 6)) - 8) (x := (nL (by4 f (p + 10)))) (y := (nL ((e - (p + 6)) - 8))) rfl rfl (by omega) (by omega)).mp (of_decide_eq_true c_30)
      refine ps_st (S' := (37, [(5, .long (nL (by4 f (p + 10)))), (0, .ref m0), (1, .int t), (2, .int (nI (p + 6))), (3, .int (nI e)), (4, .int (nI x))], [.int (nI (p + 6))], M)) rfl rfl rfl ?_
      refine ps_st (S' := (39, [(5, .long (nL (by4 f (p + 10)))), (0, .ref m0), (1, .int t), (2, .int (nI (p + 6))), (3, .int (nI e)), (4, .int (nI x))], [.int 8, .int (nI (p + 6))], M)) rfl rfl rfl ?_
      refine ps_st (S' := (40, [(5, .long (nL (by4 f (p + 10)))), (0, .ref m0), (1, .int t), (2, .int (nI (p + 6))), (3, .int (nI e)), (4, .int (nI x))], [.int ((nI (p + 6)) + 8)], M)) rfl rfl rfl ?_
      rw [nI_add1 (p := p + 6) (k := 8) (x := 8) rfl (by omega)]
      show pl _ _ _ (_, [(5, .long (nL (by4 f (p + 10)))), (0, .ref m0), (1, .int t), (2, .int (nI (p + 6))), (3, .int (nI e)), (4, .int (nI x))], [.int (nI (p + 14))], M) _
      refine ps_st (S' := (42, [(5, .long (nL (by4 f (p + 10)))), (0, .ref m0), (1, .int t), (2, .int (nI (p + 6))), (3, .int (nI e)), (4, .int (nI x))], [.long (nL (by4 f (p + 10))), .int (nI (p + 14))], M)) rfl rfl rfl ?_
      refine ps_st (S' := (43, [(5, .long (nL (by4 f (p + 10)))), (0, .ref m0), (1, .int t), (2, .int (nI (p + 6))), (3, .int (nI e)), (4, .int (nI x))], [.int (Int64.toInt32 (nL (by4 f (p + 10)))), .int (nI (p + 14))], M)) rfl rfl rfl ?_
      rw [l2i_nL (p := by4 f (p + 10)) (by omega)]
      show pl _ _ _ (_, [(5, .long (nL (by4 f (p + 10)))), (0, .ref m0), (1, .int t), (2, .int (nI (p + 6))), (3, .int (nI e)), (4, .int (nI x))], [.int (nI (by4 f (p + 10))), .int (nI (p + 14))], M) _
      refine ps_st (S' := (44, [(5, .long (nL (by4 f (p + 10)))), (0, .ref m0), (1, .int t), (2, .int (nI (p + 6))), (3, .int (nI e)), (4, .int (nI x))], [.int ((nI (p + 14)) + (nI (by4 f (p + 10))))], M)) rfl rfl rfl ?_
      rw [nI_add1 (p := p + 14) (k := by4 f (p + 10)) (x := (nI (by4 f (p + 10)))) rfl (by omega)]
      show pl _ _ _ (_, [(5, .long (nL (by4 f (p + 10)))), (0, .ref m0), (1, .int t), (2, .int (nI (p + 6))), (3, .int (nI e)), (4, .int (nI x))], [.int (nI (p + 14 + by4 f (p + 10)))], M) _
      refine ps_st (S' := (46, [(7, .int (nI (p + 14 + by4 f (p + 10)))), (5, .long (nL (by4 f (p + 10)))), (0, .ref m0), (1, .int t), (2, .int (nI (p + 6))), (3, .int (nI e)), (4, .int (nI x))], [], M)) rfl rfl rfl ?_
      refine ps_st (S' := (48, [(7, .int (nI (p + 14 + by4 f (p + 10)))), (5, .long (nL (by4 f (p + 10)))), (0, .ref m0), (1, .int t), (2, .int (nI (p + 6))), (3, .int (nI e)), (4, .int (nI x))], [.int (nI (p + 14 + by4 f (p + 10)))], M)) rfl rfl rfl ?_
      refine ps_st (S' := (49, [(7, .int (nI (p + 14 + by4 f (p + 10)))), (5, .long (nL (by4 f (p + 10)))), (0, .ref m0), (1, .int t), (2, .int (nI (p + 6))), (3, .int (nI e)), (4, .int (nI x))], [.int 2, .int (nI (p + 14 + by4 f (p + 10)))], M)) rfl rfl rfl ?_
      refine ps_st (S' := (50, [(7, .int (nI (p + 14 + by4 f (p + 10)))), (5, .long (nL (by4 f (p + 10)))), (0, .ref m0), (1, .int t), (2, .int (nI (p + 6))), (3, .int (nI e)), (4, .int (nI x))], [.int ((nI (p + 14 + by4 f (p + 10))) + 2)], M)) rfl rfl rfl ?_
      rw [nI_add1 (p := p + 14 + by4 f (p + 10)) (k := 2) (x := 2) rfl (by omega)]
      show pl _ _ _ (_, [(7, .int (nI (p + 14 + by4 f (p + 10)))), (5, .long (nL (by4 f (p + 10)))), (0, .ref m0), (1, .int t), (2, .int (nI (p + 6))), (3, .int (nI e)), (4, .int (nI x))], [.int (nI (p + 14 + by4 f (p + 10) + 2))], M) _
      refine ps_st (S' := (51, [(7, .int (nI (p + 14 + by4 f (p + 10)))), (5, .long (nL (by4 f (p + 10)))), (0, .ref m0), (1, .int t), (2, .int (nI (p + 6))), (3, .int (nI e)), (4, .int (nI x))], [.int (nI e), .int (nI (p + 14 + by4 f (p + 10) + 2))], M)) rfl rfl rfl ?_
      refine ps_if2 (S1 := (57, [(7, .int (nI (p + 14 + by4 f (p + 10)))), (5, .long (nL (by4 f (p + 10)))), (0, .ref m0), (1, .int t), (2, .int (nI (p + 6))), (3, .int (nI e)), (4, .int (nI x))], [], M)) (S2 := (54, [(7, .int (nI (p + 14 + by4 f (p + 10)))), (5, .long (nL (by4 f (p + 10)))), (0, .ref m0), (1, .int t), (2, .int (nI (p + 6))), (3, .int (nI e)), (4, .int (nI x))], [], M)) rfl rfl rfl (fun c_51 => ?_) (fun c_51 => ?_)
      · have c_51 : (nI (p + 14 + by4 f (p + 10) + 2)) ≤ (nI e) := of_decide_eq_true c_51
        have n_51 : p + 14 + by4 f (p + 10) + 2 ≤ e := (le_nI (p := p + 14 + by4 f (p + 10) + 2) (n := e) (by omega) (by omega)).mp c_51
        refine ps_st (S' := (58, [(7, .int (nI (p + 14 + by4 f (p + 10)))), (5, .long (nL (by4 f (p + 10)))), (0, .ref m0), (1, .int t), (2, .int (nI (p + 6))), (3, .int (nI e)), (4, .int (nI x))], [.ref m0], M)) rfl rfl rfl ?_
        refine ps_st (S' := (60, [(7, .int (nI (p + 14 + by4 f (p + 10)))), (5, .long (nL (by4 f (p + 10)))), (0, .ref m0), (1, .int t), (2, .int (nI (p + 6))), (3, .int (nI e)), (4, .int (nI x))], [.int (nI (p + 14 + by4 f (p + 10))), .ref m0], M)) rfl rfl rfl ?_
        refine pl_call (a := [.ref m0, .int (nI (p + 14 + by4 f (p + 10)))]) (rest := []) rfl rfl rfl (rd_u2 (n := n) (f := f) (p := (p + 14 + by4 f (p + 10))) hR hF (by omega)) (fun v139 M140 q141 => ?_)
        obtain ⟨rfl, rfl⟩ := q141
        show pl _ _ _ (63, [(7, .int (nI (p + 14 + by4 f (p + 10)))), (5, .long (nL (by4 f (p + 10)))), (0, .ref m0), (1, .int t), (2, .int (nI (p + 6))), (3, .int (nI e)), (4, .int (nI x))], [.int (nI (by2 f (p + 14 + by4 f (p + 10))))], M) _
        have hu_60 := by2_lt f (p + 14 + by4 f (p + 10))
        refine ps_st (S' := (65, [(8, .int (nI (by2 f (p + 14 + by4 f (p + 10))))), (7, .int (nI (p + 14 + by4 f (p + 10)))), (5, .long (nL (by4 f (p + 10)))), (0, .ref m0), (1, .int t), (2, .int (nI (p + 6))), (3, .int (nI e)), (4, .int (nI x))], [], M)) rfl rfl rfl ?_
        refine ps_st (S' := (67, [(8, .int (nI (by2 f (p + 14 + by4 f (p + 10))))), (7, .int (nI (p + 14 + by4 f (p + 10)))), (5, .long (nL (by4 f (p + 10)))), (0, .ref m0), (1, .int t), (2, .int (nI (p + 6))), (3, .int (nI e)), (4, .int (nI x))], [.int (nI (p + 14 + by4 f (p + 10)))], M)) rfl rfl rfl ?_
        refine ps_st (S' := (68, [(8, .int (nI (by2 f (p + 14 + by4 f (p + 10))))), (7, .int (nI (p + 14 + by4 f (p + 10)))), (5, .long (nL (by4 f (p + 10)))), (0, .ref m0), (1, .int t), (2, .int (nI (p + 6))), (3, .int (nI e)), (4, .int (nI x))], [.int 2, .int (nI (p + 14 + by4 f (p + 10)))], M)) rfl rfl rfl ?_
        refine ps_st (S' := (69, [(8, .int (nI (by2 f (p + 14 + by4 f (p + 10))))), (7, .int (nI (p + 14 + by4 f (p + 10)))), (5, .long (nL (by4 f (p + 10)))), (0, .ref m0), (1, .int t), (2, .int (nI (p + 6))), (3, .int (nI e)), (4, .int (nI x))], [.int ((nI (p + 14 + by4 f (p + 10))) + 2)], M)) rfl rfl rfl ?_
        rw [nI_add1 (p := p + 14 + by4 f (p + 10)) (k := 2) (x := 2) rfl (by omega)]
        show pl _ _ _ (_, [(8, .int (nI (by2 f (p + 14 + by4 f (p + 10))))), (7, .int (nI (p + 14 + by4 f (p + 10)))), (5, .long (nL (by4 f (p + 10)))), (0, .ref m0), (1, .int t), (2, .int (nI (p + 6))), (3, .int (nI e)), (4, .int (nI x))], [.int (nI (p + 14 + by4 f (p + 10) + 2))], M) _
        refine ps_st (S' := (71, [(9, .int (nI (p + 14 + by4 f (p + 10) + 2))), (8, .int (nI (by2 f (p + 14 + by4 f (p + 10))))), (7, .int (nI (p + 14 + by4 f (p + 10)))), (5, .long (nL (by4 f (p + 10)))), (0, .ref m0), (1, .int t), (2, .int (nI (p + 6))), (3, .int (nI e)), (4, .int (nI x))], [], M)) rfl rfl rfl ?_
        refine ps_st (S' := (73, [(9, .int (nI (p + 14 + by4 f (p + 10) + 2))), (8, .int (nI (by2 f (p + 14 + by4 f (p + 10))))), (7, .int (nI (p + 14 + by4 f (p + 10)))), (5, .long (nL (by4 f (p + 10)))), (0, .ref m0), (1, .int t), (2, .int (nI (p + 6))), (3, .int (nI e)), (4, .int (nI x))], [.int (nI (p + 14 + by4 f (p + 10) + 2))], M)) rfl rfl rfl ?_
        refine ps_st (S' := (75, [(9, .int (nI (p + 14 + by4 f (p + 10) + 2))), (8, .int (nI (by2 f (p + 14 + by4 f (p + 10))))), (7, .int (nI (p + 14 + by4 f (p + 10)))), (5, .long (nL (by4 f (p + 10)))), (0, .ref m0), (1, .int t), (2, .int (nI (p + 6))), (3, .int (nI e)), (4, .int (nI x))], [.int 8, .int (nI (p + 14 + by4 f (p + 10) + 2))], M)) rfl rfl rfl ?_
        refine ps_st (S' := (77, [(9, .int (nI (p + 14 + by4 f (p + 10) + 2))), (8, .int (nI (by2 f (p + 14 + by4 f (p + 10))))), (7, .int (nI (p + 14 + by4 f (p + 10)))), (5, .long (nL (by4 f (p + 10)))), (0, .ref m0), (1, .int t), (2, .int (nI (p + 6))), (3, .int (nI e)), (4, .int (nI x))], [.int (nI (by2 f (p + 14 + by4 f (p + 10)))), .int 8, .int (nI (p + 14 + by4 f (p + 10) + 2))], M)) rfl rfl rfl ?_
        refine ps_st (S' := (78, [(9, .int (nI (p + 14 + by4 f (p + 10) + 2))), (8, .int (nI (by2 f (p + 14 + by4 f (p + 10))))), (7, .int (nI (p + 14 + by4 f (p + 10)))), (5, .long (nL (by4 f (p + 10)))), (0, .ref m0), (1, .int t), (2, .int (nI (p + 6))), (3, .int (nI e)), (4, .int (nI x))], [.int (8 * (nI (by2 f (p + 14 + by4 f (p + 10))))), .int (nI (p + 14 + by4 f (p + 10) + 2))], M)) rfl rfl rfl ?_
        rw [nI_mul1 (p := 8) (k := by2 f (p + 14 + by4 f (p + 10))) (x := 8) (y := (nI (by2 f (p + 14 + by4 f (p + 10))))) rfl rfl (by omega)]
        show pl _ _ _ (_, [(9, .int (nI (p + 14 + by4 f (p + 10) + 2))), (8, .int (nI (by2 f (p + 14 + by4 f (p + 10))))), (7, .int (nI (p + 14 + by4 f (p + 10)))), (5, .long (nL (by4 f (p + 10)))), (0, .ref m0), (1, .int t), (2, .int (nI (p + 6))), (3, .int (nI e)), (4, .int (nI x))], [.int (nI (8 * (by2 f (p + 14 + by4 f (p + 10))))), .int (nI (p + 14 + by4 f (p + 10) + 2))], M) _
        refine ps_st (S' := (79, [(9, .int (nI (p + 14 + by4 f (p + 10) + 2))), (8, .int (nI (by2 f (p + 14 + by4 f (p + 10))))), (7, .int (nI (p + 14 + by4 f (p + 10)))), (5, .long (nL (by4 f (p + 10)))), (0, .ref m0), (1, .int t), (2, .int (nI (p + 6))), (3, .int (nI e)), (4, .int (nI x))], [.int ((nI (p + 14 + by4 f (p + 10) + 2)) + (nI (8 * (by2 f (p + 14 + by4 f (p + 10))))))], M)) rfl rfl rfl ?_
        rw [nI_add1 (p := p + 14 + by4 f (p + 10) + 2) (k := 8 * (by2 f (p + 14 + by4 f (p + 10)))) (x := (nI (8 * (by2 f (p + 14 + by4 f (p + 10)))))) rfl (by omega)]
        show pl _ _ _ (_, [(9, .int (nI (p + 14 + by4 f (p + 10) + 2))), (8, .int (nI (by2 f (p + 14 + by4 f (p + 10))))), (7, .int (nI (p + 14 + by4 f (p + 10)))), (5, .long (nL (by4 f (p + 10)))), (0, .ref m0), (1, .int t), (2, .int (nI (p + 6))), (3, .int (nI e)), (4, .int (nI x))], [.int (nI (p + 14 + by4 f (p + 10) + 2 + 8 * (by2 f (p + 14 + by4 f (p + 10)))))], M) _
        refine ps_st (S' := (81, [(7, .int (nI (p + 14 + by4 f (p + 10) + 2 + 8 * (by2 f (p + 14 + by4 f (p + 10)))))), (9, .int (nI (p + 14 + by4 f (p + 10) + 2))), (8, .int (nI (by2 f (p + 14 + by4 f (p + 10))))), (5, .long (nL (by4 f (p + 10)))), (0, .ref m0), (1, .int t), (2, .int (nI (p + 6))), (3, .int (nI e)), (4, .int (nI x))], [], M)) rfl rfl rfl ?_
        refine ps_st (S' := (83, [(7, .int (nI (p + 14 + by4 f (p + 10) + 2 + 8 * (by2 f (p + 14 + by4 f (p + 10)))))), (9, .int (nI (p + 14 + by4 f (p + 10) + 2))), (8, .int (nI (by2 f (p + 14 + by4 f (p + 10))))), (5, .long (nL (by4 f (p + 10)))), (0, .ref m0), (1, .int t), (2, .int (nI (p + 6))), (3, .int (nI e)), (4, .int (nI x))], [.int (nI (p + 14 + by4 f (p + 10) + 2 + 8 * (by2 f (p + 14 + by4 f (p + 10)))))], M)) rfl rfl rfl ?_
        refine ps_st (S' := (84, [(7, .int (nI (p + 14 + by4 f (p + 10) + 2 + 8 * (by2 f (p + 14 + by4 f (p + 10)))))), (9, .int (nI (p + 14 + by4 f (p + 10) + 2))), (8, .int (nI (by2 f (p + 14 + by4 f (p + 10))))), (5, .long (nL (by4 f (p + 10)))), (0, .ref m0), (1, .int t), (2, .int (nI (p + 6))), (3, .int (nI e)), (4, .int (nI x))], [.int 2, .int (nI (p + 14 + by4 f (p + 10) + 2 + 8 * (by2 f (p + 14 + by4 f (p + 10)))))], M)) rfl rfl rfl ?_
        refine ps_st (S' := (85, [(7, .int (nI (p + 14 + by4 f (p + 10) + 2 + 8 * (by2 f (p + 14 + by4 f (p + 10)))))), (9, .int (nI (p + 14 + by4 f (p + 10) + 2))), (8, .int (nI (by2 f (p + 14 + by4 f (p + 10))))), (5, .long (nL (by4 f (p + 10)))), (0, .ref m0), (1, .int t), (2, .int (nI (p + 6))), (3, .int (nI e)), (4, .int (nI x))], [.int ((nI (p + 14 + by4 f (p + 10) + 2 + 8 * (by2 f (p + 14 + by4 f (p + 10))))) + 2)], M)) rfl rfl rfl ?_
        rw [nI_add1 (p := p + 14 + by4 f (p + 10) + 2 + 8 * (by2 f (p + 14 + by4 f (p + 10)))) (k := 2) (x := 2) rfl (by omega)]
        show pl _ _ _ (_, [(7, .int (nI (p + 14 + by4 f (p + 10) + 2 + 8 * (by2 f (p + 14 + by4 f (p + 10)))))), (9, .int (nI (p + 14 + by4 f (p + 10) + 2))), (8, .int (nI (by2 f (p + 14 + by4 f (p + 10))))), (5, .long (nL (by4 f (p + 10)))), (0, .ref m0), (1, .int t), (2, .int (nI (p + 6))), (3, .int (nI e)), (4, .int (nI x))], [.int (nI (p + 14 + by4 f (p + 10) + 2 + 8 * (by2 f (p + 14 + by4 f (p + 10))) + 2))], M) _
        refine ps_st (S' := (86, [(7, .int (nI (p + 14 + by4 f (p + 10) + 2 + 8 * (by2 f (p + 14 + by4 f (p + 10)))))), (9, .int (nI (p + 14 + by4 f (p + 10) + 2))), (8, .int (nI (by2 f (p + 14 + by4 f (p + 10))))), (5, .long (nL (by4 f (p + 10)))), (0, .ref m0), (1, .int t), (2, .int (nI (p + 6))), (3, .int (nI e)), (4, .int (nI x))], [.int (nI e), .int (nI (p + 14 + by4 f (p + 10) + 2 + 8 * (by2 f (p + 14 + by4 f (p + 10))) + 2))], M)) rfl rfl rfl ?_
        refine ps_if2 (S1 := (92, [(7, .int (nI (p + 14 + by4 f (p + 10) + 2 + 8 * (by2 f (p + 14 + by4 f (p + 10)))))), (9, .int (nI (p + 14 + by4 f (p + 10) + 2))), (8, .int (nI (by2 f (p + 14 + by4 f (p + 10))))), (5, .long (nL (by4 f (p + 10)))), (0, .ref m0), (1, .int t), (2, .int (nI (p + 6))), (3, .int (nI e)), (4, .int (nI x))], [], M)) (S2 := (89, [(7, .int (nI (p + 14 + by4 f (p + 10) + 2 + 8 * (by2 f (p + 14 + by4 f (p + 10)))))), (9, .int (nI (p + 14 + by4 f (p + 10) + 2))), (8, .int (nI (by2 f (p + 14 + by4 f (p + 10))))), (5, .long (nL (by4 f (p + 10)))), (0, .ref m0), (1, .int t), (2, .int (nI (p + 6))), (3, .int (nI e)), (4, .int (nI x))], [], M)) rfl rfl rfl (fun c_86 => ?_) (fun c_86 => ?_)
        · have c_86 : (nI (p + 14 + by4 f (p + 10) + 2 + 8 * (by2 f (p + 14 + by4 f (p + 10))) + 2)) ≤ (nI e) := of_decide_eq_true c_86
          have n_86 : p + 14 + by4 f (p + 10) + 2 + 8 * (by2 f (p + 14 + by4 f (p + 10))) + 2 ≤ e := (le_nI (p := p + 14 + by4 f (p + 10) + 2 + 8 * (by2 f (p + 14 + by4 f (p + 10))) + 2) (n := e) (by omega) (by omega)).mp c_86
          refine ps_st (S' := (94, [(7, .int (nI (p + 14 + by4 f (p + 10) + 2 + 8 * (by2 f (p + 14 + by4 f (p + 10)))))), (9, .int (nI (p + 14 + by4 f (p + 10) + 2))), (8, .int (nI (by2 f (p + 14 + by4 f (p + 10))))), (5, .long (nL (by4 f (p + 10)))), (0, .ref m0), (1, .int t), (2, .int (nI (p + 6))), (3, .int (nI e)), (4, .int (nI x))], [.int (nI (p + 14 + by4 f (p + 10) + 2 + 8 * (by2 f (p + 14 + by4 f (p + 10)))))], M)) rfl rfl rfl ?_
          refine ps_st (S' := (96, [(10, .int (nI (p + 14 + by4 f (p + 10) + 2 + 8 * (by2 f (p + 14 + by4 f (p + 10)))))), (7, .int (nI (p + 14 + by4 f (p + 10) + 2 + 8 * (by2 f (p + 14 + by4 f (p + 10)))))), (9, .int (nI (p + 14 + by4 f (p + 10) + 2))), (8, .int (nI (by2 f (p + 14 + by4 f (p + 10))))), (5, .long (nL (by4 f (p + 10)))), (0, .ref m0), (1, .int t), (2, .int (nI (p + 6))), (3, .int (nI e)), (4, .int (nI x))], [], M)) rfl rfl rfl ?_
          refine ps_st (S' := (97, [(10, .int (nI (p + 14 + by4 f (p + 10) + 2 + 8 * (by2 f (p + 14 + by4 f (p + 10)))))), (7, .int (nI (p + 14 + by4 f (p + 10) + 2 + 8 * (by2 f (p + 14 + by4 f (p + 10)))))), (9, .int (nI (p + 14 + by4 f (p + 10) + 2))), (8, .int (nI (by2 f (p + 14 + by4 f (p + 10))))), (5, .long (nL (by4 f (p + 10)))), (0, .ref m0), (1, .int t), (2, .int (nI (p + 6))), (3, .int (nI e)), (4, .int (nI x))], [.ref m0], M)) rfl rfl rfl ?_
          refine ps_st (S' := (99, [(10, .int (nI (p + 14 + by4 f (p + 10) + 2 + 8 * (by2 f (p + 14 + by4 f (p + 10)))))), (7, .int (nI (p + 14 + by4 f (p + 10) + 2 + 8 * (by2 f (p + 14 + by4 f (p + 10)))))), (9, .int (nI (p + 14 + by4 f (p + 10) + 2))), (8, .int (nI (by2 f (p + 14 + by4 f (p + 10))))), (5, .long (nL (by4 f (p + 10)))), (0, .ref m0), (1, .int t), (2, .int (nI (p + 6))), (3, .int (nI e)), (4, .int (nI x))], [.int (nI (p + 14 + by4 f (p + 10) + 2 + 8 * (by2 f (p + 14 + by4 f (p + 10))))), .ref m0], M)) rfl rfl rfl ?_
          refine pl_call (a := [.ref m0, .int (nI (p + 14 + by4 f (p + 10) + 2 + 8 * (by2 f (p + 14 + by4 f (p + 10)))))]) (rest := []) rfl rfl rfl (rd_u2 (n := n) (f := f) (p := (p + 14 + by4 f (p + 10) + 2 + 8 * (by2 f (p + 14 + by4 f (p + 10))))) hR hF (by omega)) (fun v142 M143 q144 => ?_)
          obtain ⟨rfl, rfl⟩ := q144
          show pl _ _ _ (102, [(10, .int (nI (p + 14 + by4 f (p + 10) + 2 + 8 * (by2 f (p + 14 + by4 f (p + 10)))))), (7, .int (nI (p + 14 + by4 f (p + 10) + 2 + 8 * (by2 f (p + 14 + by4 f (p + 10)))))), (9, .int (nI (p + 14 + by4 f (p + 10) + 2))), (8, .int (nI (by2 f (p + 14 + by4 f (p + 10))))), (5, .long (nL (by4 f (p + 10)))), (0, .ref m0), (1, .int t), (2, .int (nI (p + 6))), (3, .int (nI e)), (4, .int (nI x))], [.int (nI (by2 f (p + 14 + by4 f (p + 10) + 2 + 8 * (by2 f (p + 14 + by4 f (p + 10))))))], M) _
          have hu_99 := by2_lt f (p + 14 + by4 f (p + 10) + 2 + 8 * (by2 f (p + 14 + by4 f (p + 10))))
          refine ps_st (S' := (104, [(11, .int (nI (by2 f (p + 14 + by4 f (p + 10) + 2 + 8 * (by2 f (p + 14 + by4 f (p + 10))))))), (10, .int (nI (p + 14 + by4 f (p + 10) + 2 + 8 * (by2 f (p + 14 + by4 f (p + 10)))))), (7, .int (nI (p + 14 + by4 f (p + 10) + 2 + 8 * (by2 f (p + 14 + by4 f (p + 10)))))), (9, .int (nI (p + 14 + by4 f (p + 10) + 2))), (8, .int (nI (by2 f (p + 14 + by4 f (p + 10))))), (5, .long (nL (by4 f (p + 10)))), (0, .ref m0), (1, .int t), (2, .int (nI (p + 6))), (3, .int (nI e)), (4, .int (nI x))], [], M)) rfl rfl rfl ?_
          refine ps_st (S' := (107, [(7, .int ((nI (p + 14 + by4 f (p + 10) + 2 + 8 * (by2 f (p + 14 + by4 f (p + 10))))) + 2)), (11, .int (nI (by2 f (p + 14 + by4 f (p + 10) + 2 + 8 * (by2 f (p + 14 + by4 f (p + 10))))))), (10, .int (nI (p + 14 + by4 f (p + 10) + 2 + 8 * (by2 f (p + 14 + by4 f (p + 10)))))), (9, .int (nI (p + 14 + by4 f (p + 10) + 2))), (8, .int (nI (by2 f (p + 14 + by4 f (p + 10))))), (5, .long (nL (by4 f (p + 10)))), (0, .ref m0), (1, .int t), (2, .int (nI (p + 6))), (3, .int (nI e)), (4, .int (nI x))], [], M)) rfl rfl rfl ?_
          rw [nI_add1 (p := p + 14 + by4 f (p + 10) + 2 + 8 * (by2 f (p + 14 + by4 f (p + 10)))) (k := 2) (x := 2) rfl (by omega)]
          show pl _ _ _ (_, [(7, .int (nI (p + 14 + by4 f (p + 10) + 2 + 8 * (by2 f (p + 14 + by4 f (p + 10))) + 2))), (11, .int (nI (by2 f (p + 14 + by4 f (p + 10) + 2 + 8 * (by2 f (p + 14 + by4 f (p + 10))))))), (10, .int (nI (p + 14 + by4 f (p + 10) + 2 + 8 * (by2 f (p + 14 + by4 f (p + 10)))))), (9, .int (nI (p + 14 + by4 f (p + 10) + 2))), (8, .int (nI (by2 f (p + 14 + by4 f (p + 10))))), (5, .long (nL (by4 f (p + 10)))), (0, .ref m0), (1, .int t), (2, .int (nI (p + 6))), (3, .int (nI e)), (4, .int (nI x))], [], M) _
          refine ps_st (S' := (108, [(7, .int (nI (p + 14 + by4 f (p + 10) + 2 + 8 * (by2 f (p + 14 + by4 f (p + 10))) + 2))), (11, .int (nI (by2 f (p + 14 + by4 f (p + 10) + 2 + 8 * (by2 f (p + 14 + by4 f (p + 10))))))), (10, .int (nI (p + 14 + by4 f (p + 10) + 2 + 8 * (by2 f (p + 14 + by4 f (p + 10)))))), (9, .int (nI (p + 14 + by4 f (p + 10) + 2))), (8, .int (nI (by2 f (p + 14 + by4 f (p + 10))))), (5, .long (nL (by4 f (p + 10)))), (0, .ref m0), (1, .int t), (2, .int (nI (p + 6))), (3, .int (nI e)), (4, .int (nI x))], [.int 0], M)) rfl rfl rfl ?_
          refine ps_st (S' := (110, [(0, .ref m0), (2, .int (nI (p + 6))), (3, .int (nI e)), (4, .int (nI x)), (5, .long (nL (by4 f (p + 10)))), (7, .int (nI (p + 14 + by4 f (p + 10) + 2 + 8 * (by2 f (p + 14 + by4 f (p + 10))) + 2))), (8, .int (nI (by2 f (p + 14 + by4 f (p + 10))))), (9, .int (nI (p + 14 + by4 f (p + 10) + 2))), (10, .int (nI (p + 14 + by4 f (p + 10) + 2 + 8 * (by2 f (p + 14 + by4 f (p + 10)))))), (11, .int (nI (by2 f (p + 14 + by4 f (p + 10) + 2 + 8 * (by2 f (p + 14 + by4 f (p + 10))))))), (12, .int 0)], [], M)) rfl rfl rfl ?_
          exact (LL kf).1 (0) (p + 14 + by4 f (p + 10) + 2 + 8 * by2 f (p + 14 + by4 f (p + 10)) + 2) M I R hR hEI hER hi51 hi52 hi53 hF hY hP hK hW (⟨hfl, hds⟩) (by omega) (by omega) (by omega) (rfl)
        · have c_86 : ¬ ((nI (p + 14 + by4 f (p + 10) + 2 + 8 * (by2 f (p + 14 + by4 f (p + 10))) + 2)) ≤ (nI e)) := of_decide_eq_false c_86
          have n_86 : ¬ (p + 14 + by4 f (p + 10) + 2 + 8 * (by2 f (p + 14 + by4 f (p + 10))) + 2 ≤ e) := fun h9 => c_86 ((le_nI (p := p + 14 + by4 f (p + 10) + 2 + 8 * (by2 f (p + 14 + by4 f (p + 10))) + 2) (n := e) (by omega) (by omega)).mpr h9)
          refine ps_st (S' := (91, [(7, .int (nI (p + 14 + by4 f (p + 10) + 2 + 8 * (by2 f (p + 14 + by4 f (p + 10)))))), (9, .int (nI (p + 14 + by4 f (p + 10) + 2))), (8, .int (nI (by2 f (p + 14 + by4 f (p + 10))))), (5, .long (nL (by4 f (p + 10)))), (0, .ref m0), (1, .int t), (2, .int (nI (p + 6))), (3, .int (nI e)), (4, .int (nI x))], [.int 30], M)) rfl rfl rfl ?_
          exact ps_ret rfl rfl (Or.inl ⟨I, R, by
              rw [cdE_of]
              rw [if_neg (by omega), if_neg (by omega), if_pos (by omega)]
              exact (fun h9 => (by cases h9)), rfl, hR, hEI, hER⟩)
      · have c_51 : ¬ ((nI (p + 14 + by4 f (p + 10) + 2)) ≤ (nI e)) := of_decide_eq_false c_51
        have n_51 : ¬ (p + 14 + by4 f (p + 10) + 2 ≤ e) := fun h9 => c_51 ((le_nI (p := p + 14 + by4 f (p + 10) + 2) (n := e) (by omega) (by omega)).mpr h9)
        refine ps_st (S' := (56, [(7, .int (nI (p + 14 + by4 f (p + 10)))), (5, .long (nL (by4 f (p + 10)))), (0, .ref m0), (1, .int t), (2, .int (nI (p + 6))), (3, .int (nI e)), (4, .int (nI x))], [.int 30], M)) rfl rfl rfl ?_
        exact ps_ret rfl rfl (Or.inl ⟨I, R, by
            rw [cdE_of]
            rw [if_neg (by omega), if_neg (by omega), if_pos (by omega)]
            exact (fun h9 => (by cases h9)), rfl, hR, hEI, hER⟩)
    · have n_30 : ¬ (by4 f (p + 10) ≤ (e - (p + 6)) - 8) := fun h9 => of_decide_eq_false c_30 ((cL_le (p := by4 f (p + 10)) (k := (e - (p + 6)) - 8) (x := (nL (by4 f (p + 10)))) (y := (nL ((e - (p + 6)) - 8))) rfl rfl (by omega) (by omega)).mpr h9)
      refine ps_st (S' := (35, [(5, .long (nL (by4 f (p + 10)))), (0, .ref m0), (1, .int t), (2, .int (nI (p + 6))), (3, .int (nI e)), (4, .int (nI x))], [.int 30], M)) rfl rfl rfl ?_
      exact ps_ret rfl rfl (Or.inl ⟨I, R, by
          rw [cdE_of]
          rw [if_neg (by omega), if_pos (by omega)]
          exact (fun h9 => (by cases h9)), rfl, hR, hEI, hER⟩)
  · have c_5 : ¬ (8 ≤ ((nI e) - (nI (p + 6)))) := of_decide_eq_false c_5
    have n_5 : ¬ (8 + (p + 6) ≤ e) := fun h8 => c_5 ((le_sub1 (e := e) (p := p + 6) (k := 8) (by omega) (by omega) (by omega)).mpr h8)
    refine ps_st (S' := (10, [(0, .ref m0), (1, .int t), (2, .int (nI (p + 6))), (3, .int (nI e)), (4, .int (nI x))], [.int 30], M)) rfl rfl rfl ?_
    exact ps_ret rfl rfl (Or.inl ⟨I, R, by
        rw [cdE_of]
        rw [if_pos (by omega)]
        exact (fun h9 => (by cases h9)), rfl, hR, hEI, hER⟩)
set_option maxHeartbeats 4000000 in
theorem rd_attr17 {g : xe_G} {m0 : Nat} {q : Nat → Nat} {z : Nat × Nat} {I : rI} {R : rR} {M : mi_H} {n : Nat} {f : Nat → Int32} {tx : List (List Nat)} {cN : Nat} {A : Nat → Nat} {N mj : Nat} {E : List (Nat × Nat)} {p e x w fl ds : Nat} {l : List Nat} {t : Int32} {K : Nat × Nat × Nat} {R0 : rR} {s3 : Nat} (hR : RS g m0 q z I R M) (hi51 : I 51 = some 0) (hi52 : I 52 = some (nI N)) (hi53 : I 53 = some (nI mj)) (hF : FK n f I R) (hY : SYT tx cN A I R) (hP : RPV f n E tx N I R) (hK : KX I R) (hW : MW f x K R0 I R) (hEP : EP f n E) (hN : N < 65536) (hmj : mj < 65536) (he : p + 6 ≤ e ∧ e ≤ n) (hx : x < 8300) (hfl : R 34 x = some (nI fl)) (hds : R 36 x = some (nI ds)) (hdt : ds < tx.length ∧ tx.getD ds [] = l) (hmt : ¬ mthN l = 0) (hf6 : fl < 65536) (hw : w = argN l + (if aN fl 8 = 0 then 1 else 0)) (hp0 : ¬ p = 0) : pt (mT g) 177 [.ref m0, .int 1, .int t, .int (nI (p + 6)), .int (nI e), .int (nI x), .int (nI s3)] M (fun v M' => (∃  (I' : rI) (R' : rR), (¬ s_fe f 2 (p + 6) e = some e) ∧ v = some (.int 30) ∧ RS g m0 q z I' R' M' ∧ eqI [47, 48] I I' ∧ eqR [37, 38, 39, 40, 41, 42] R R') ∨ (∃ (r : Nat) (I' : rI) (R' : rR), (s_fe f 2 (p + 6) e = some e) ∧ (cdS f n E mj w p 0 = .inl (r, p)) ∧ (41 ≤ r ∧ r ≤ 43) ∧ v = some (.int (nI r)) ∧ RS g m0 q z I' R' M' ∧ eqI [47, 48] I I' ∧ eqR [37, 38, 39, 40, 41, 42] R R') ∨ (∃ (e9 : Nat × Nat) (I' : rI) (R' : rR), (s_fe f 2 (p + 6) e = some e) ∧ (cdS f n E mj w p 0 = .inl e9) ∧ v = some (.int (-1)) ∧ RS g m0 q z I' R' M' ∧ eqI [47, 48] I I' ∧ eqR [37, 38, 39, 40, 41, 42] R R' ∧ I' 47 = some (nI e9.1) ∧ I' 48 = some (nI e9.2)) ∨ (∃ (s' : Nat) (I' : rI) (R' : rR), (s_fe f 2 (p + 6) e = some e) ∧ (cdS f n E mj w p 0 = .inr s') ∧ (R' 37 x = some (nI (p + 14))) ∧ v = some (.int 0) ∧ RS g m0 q z I' R' M' ∧ eqI [47, 48] I I' ∧ eqR [37, 38, 39, 40, 41, 42] R R' ∧ MW f x (K.1, p, K.2.2) R0 I' R')) := by
  refine pt_in (b := mb_177 g) rfl (fun kf => ?_)
  show pl (mT g) kf (mb_177 g).2 (0, [(0, .ref m0), (1, .int 1), (2, .int t), (3, .int (nI (p + 6))), (4, .int (nI e)), (5, .int (nI x)), (6, .int (nI s3))], [], M) _
  have hEI : eqI [47, 48] I I := eqI.rf
  have hER : eqR [37, 38, 39, 40, 41, 42] R R := eqR.rf
  have hn := hF.1
  refine ps_st (S' := (1, [(0, .ref m0), (1, .int 1), (2, .int t), (3, .int (nI (p + 6))), (4, .int (nI e)), (5, .int (nI x)), (6, .int (nI s3))], [.int 1], M)) rfl rfl rfl ?_
  refine ps_st (S' := (208, [(0, .ref m0), (1, .int 1), (2, .int t), (3, .int (nI (p + 6))), (4, .int (nI e)), (5, .int (nI x)), (6, .int (nI s3))], [], M)) rfl rfl rfl ?_
  refine ps_st (S' := (209, [(0, .ref m0), (1, .int 1), (2, .int t), (3, .int (nI (p + 6))), (4, .int (nI e)), (5, .int (nI x)), (6, .int (nI s3))], [.ref m0], M)) rfl rfl rfl ?_
  refine ps_st (S' := (210, [(0, .ref m0), (1, .int 1), (2, .int t), (3, .int (nI (p + 6))), (4, .int (nI e)), (5, .int (nI x)), (6, .int (nI s3))], [.int t, .ref m0], M)) rfl rfl rfl ?_
  refine ps_st (S' := (211, [(0, .ref m0), (1, .int 1), (2, .int t), (3, .int (nI (p + 6))), (4, .int (nI e)), (5, .int (nI x)), (6, .int (nI s3))], [.int (nI (p + 6)), .int t, .ref m0], M)) rfl rfl rfl ?_
  refine ps_st (S' := (213, [(0, .ref m0), (1, .int 1), (2, .int t), (3, .int (nI (p + 6))), (4, .int (nI e)), (5, .int (nI x)), (6, .int (nI s3))], [.int (nI e), .int (nI (p + 6)), .int t, .ref m0], M)) rfl rfl rfl ?_
  refine ps_st (S' := (215, [(0, .ref m0), (1, .int 1), (2, .int t), (3, .int (nI (p + 6))), (4, .int (nI e)), (5, .int (nI x)), (6, .int (nI s3))], [.int (nI x), .int (nI e), .int (nI (p + 6)), .int t, .ref m0], M)) rfl rfl rfl ?_
  refine pl_call (a := [.ref m0, .int t, .int (nI (p + 6)), .int (nI e), .int (nI x)]) (rest := []) rfl rfl rfl (rd_code7 (n := n) (f := f) (tx := tx) (cN := cN) (A := A) (N := N) (mj := mj) (E := E) (p := p) (e := e) (x := x) (w := w) (fl := fl) (ds := ds) (l := l) (t := t) (K := K) (R0 := R0) hR hi51 hi52 hi53 hF hY hP hK hW (hEP) (hN) (hmj) (he) (hx) (hfl) (hds) (hdt) (hmt) (hf6) (hw) (hp0)) (fun v1 M2 q3 => ?_)
  rcases q3 with q3 | q3 | q3 | q3
  · skip
    obtain ⟨I4, R5, q215_s, rfl, hR6, hI7, hX8⟩ := q3
    have hi9 := (hI7 51 (by decide)).trans hi51
    have hi10 := (hI7 52 (by decide)).trans hi52
    have hi11 := (hI7 53 (by decide)).trans hi53
    have hF_12 := hF.mono (cIx hI7 (by decide)) (cRx hX8 (by decide))
    have hY_13 := hY.mono (cIx hI7 (by decide)) (cRx hX8 (by decide))
    have hP_14 := hP.mono (cIx hI7 (by decide)) (cRx hX8 (by decide))
    have hK_15 := hK.mono (cIx hI7 (by decide)) (cRx hX8 (by decide))
    have hEI16 := hEI.tr hI7 (by decide)
    have hER17 := hER.tr hX8 (by decide)
    show pl _ _ _ (218, [(0, .ref m0), (1, .int 1), (2, .int t), (3, .int (nI (p + 6))), (4, .int (nI e)), (5, .int (nI x)), (6, .int (nI s3))], [.int 30], M2) _
    exact ps_ret rfl rfl (Or.inl ⟨I4, R5, (by rw [fe_cd]; exact q215_s), rfl, hR6, hEI16, hER17⟩)
  · skip
    obtain ⟨r18, I19, R20, q215_s, q215_b, q215_l, rfl, hR21, hI22, hX23⟩ := q3
    have hi24 := (hI22 51 (by decide)).trans hi51
    have hi25 := (hI22 52 (by decide)).trans hi52
    have hi26 := (hI22 53 (by decide)).trans hi53
    have hF_27 := hF.mono (cIx hI22 (by decide)) (cRx hX23 (by decide))
    have hY_28 := hY.mono (cIx hI22 (by decide)) (cRx hX23 (by decide))
    have hP_29 := hP.mono (cIx hI22 (by decide)) (cRx hX23 (by decide))
    have hK_30 := hK.mono (cIx hI22 (by decide)) (cRx hX23 (by decide))
    have hEI31 := hEI.tr hI22 (by decide)
    have hER32 := hER.tr hX23 (by decide)
    show pl _ _ _ (218, [(0, .ref m0), (1, .int 1), (2, .int t), (3, .int (nI (p + 6))), (4, .int (nI e)), (5, .int (nI x)), (6, .int (nI s3))], [.int (nI r18)], M2) _
    exact ps_reti rfl (Or.inr (Or.inl ⟨r18, I19, R20, (by rw [fe_cd]; exact q215_s), q215_b, q215_l, rfl, hR21, hEI31, hER32⟩))
  · skip
    obtain ⟨e933, I34, R35, q215_s, q215_b, rfl, hR36, hI37, hX38, hi39, hi40⟩ := q3
    have hi41 := (hI37 51 (by decide)).trans hi51
    have hi42 := (hI37 52 (by decide)).trans hi52
    have hi43 := (hI37 53 (by decide)).trans hi53
    have hF_44 := hF.mono (cIx hI37 (by decide)) (cRx hX38 (by decide))
    have hY_45 := hY.mono (cIx hI37 (by decide)) (cRx hX38 (by decide))
    have hP_46 := hP.mono (cIx hI37 (by decide)) (cRx hX38 (by decide))
    have hK_47 := hK.mono (cIx hI37 (by decide)) (cRx hX38 (by decide))
    have hEI48 := hEI.tr hI37 (by decide)
    have hER49 := hER.tr hX38 (by decide)
    show pl _ _ _ (218, [(0, .ref m0), (1, .int 1), (2, .int t), (3, .int (nI (p + 6))), (4, .int (nI e)), (5, .int (nI x)), (6, .int (nI s3))], [.int (-1)], M2) _
    exact ps_ret rfl rfl (Or.inr (Or.inr (Or.inl ⟨e933, I34, R35, (by rw [fe_cd]; exact q215_s), q215_b, rfl, hR36, hEI48, hER49, hi39, hi40⟩)))
  · skip
    obtain ⟨s'50, I51, R52, q215_s, q215_b, q215_c, rfl, hR53, hI54, hX55, hW_56⟩ := q3
    have hi57 := (hI54 51 (by decide)).trans hi51
    have hi58 := (hI54 52 (by decide)).trans hi52
    have hi59 := (hI54 53 (by decide)).trans hi53
    have hF_60 := hF.mono (cIx hI54 (by decide)) (cRx hX55 (by decide))
    have hY_61 := hY.mono (cIx hI54 (by decide)) (cRx hX55 (by decide))
    have hP_62 := hP.mono (cIx hI54 (by decide)) (cRx hX55 (by decide))
    have hK_63 := hK.mono (cIx hI54 (by decide)) (cRx hX55 (by decide))
    have hEI64 := hEI.tr hI54 (by decide)
    have hER65 := hER.tr hX55 (by decide)
    show pl _ _ _ (218, [(0, .ref m0), (1, .int 1), (2, .int t), (3, .int (nI (p + 6))), (4, .int (nI e)), (5, .int (nI x)), (6, .int (nI s3))], [.int 0], M2) _
    exact ps_ret rfl rfl (Or.inr (Or.inr (Or.inr (⟨s'50, I51, R52, (by rw [fe_cd]; exact q215_s), q215_b, q215_c, rfl, hR53, hEI64, hER65, hW_56⟩))))
set_option maxHeartbeats 4000000 in
theorem rd_attr27 {g : xe_G} {m0 : Nat} {q : Nat → Nat} {z : Nat × Nat} {I : rI} {R : rR} {M : mi_H} {n : Nat} {f : Nat → Int32} {tx : List (List Nat)} {cN : Nat} {A : Nat → Nat} {N mj : Nat} {E : List (Nat × Nat)} {p0 e x s3 : Nat} {t : Int32} {K : Nat × Nat × Nat} {R0 : rR} (hR : RS g m0 q z I R M) (hi51 : I 51 = some 0) (hi52 : I 52 = some (nI N)) (hi53 : I 53 = some (nI mj)) (hF : FK n f I R) (hY : SYT tx cN A I R) (hP : RPV f n E tx N I R) (hW : MW f x K R0 I R) (hEP : EP f n E) (hN : N < 65536) (hmj : mj < 65536) (he : p0 ≤ e ∧ e ≤ n) (hs3 : s3 < 2048) (hx : x < 8300) : pt (mT g) 177 [.ref m0, .int 2, .int t, .int (nI p0), .int (nI e), .int (nI x), .int (nI s3)] M (fun v M' => (∃  (I' : rI) (R' : rR), (¬ s_fe f 3 p0 e = some e) ∧ v = some (.int 30) ∧ RS g m0 q z I' R' M' ∧ eqI [] I I' ∧ eqR [44] R R') ∨ (∃  (I' : rI) (R' : rR), (s_fe f 3 p0 e = some e) ∧ (clA f E (p0 + 2) (by2 f p0) 0 = 0) ∧ v = some (.int 32) ∧ RS g m0 q z I' R' M' ∧ eqI [] I I' ∧ eqR [44] R R') ∨ (∃  (I' : rI) (R' : rR), (s_fe f 3 p0 e = some e) ∧ (¬ clA f E (p0 + 2) (by2 f p0) 0 = 0) ∧ v = some (.int 0) ∧ RS g m0 q z I' R' M' ∧ eqI [] I I' ∧ eqR [44] R R' ∧ MW f x (K.1, K.2.1, by2 f p0) R0 I' R')) := by
  refine pt_in (b := mb_177 g) rfl (fun kf => ?_)
  show pl (mT g) kf (mb_177 g).2 (0, [(0, .ref m0), (1, .int 2), (2, .int t), (3, .int (nI p0)), (4, .int (nI e)), (5, .int (nI x)), (6, .int (nI s3))], [], M) _
  have hEI : eqI [] I I := eqI.rf
  have hER : eqR [44] R R := eqR.rf
  have hn := hF.1
  have LL : ∀ (kf : Nat), (∀ (i : Nat) (M1 : mi_H) (I1 : rI) (R1 : rR), (RS g m0 q z I1 R1 M1) → (eqI [] I I1) → (eqR [44] R R1) → (I1 51 = some 0) → (I1 52 = some (nI N)) → (I1 53 = some (nI mj)) → (FK n f I1 R1) → (SYT tx cN A I1 R1) → (RPV f n E tx N I1 R1) → (MW f x K R0 I1 R1) → (s_fe f 3 p0 e = some e) → (i ≤ by2 f p0) → (p0 + 2 + 2 * by2 f p0 = e) → (clA f E (p0 + 2) (by2 f p0 - i) i = clA f E (p0 + 2) (by2 f p0) 0) →  pl (mT g) kf (mb_177 g).2 (268, [(0, .ref m0), (1, .int 2), (3, .int (nI p0)), (5, .int (nI x)), (6, .int (nI s3)), (9, .int (nI i))], [], M1) (fun v M' => (∃  (I' : rI) (R' : rR), (¬ s_fe f 3 p0 e = some e) ∧ v = some (.int 30) ∧ RS g m0 q z I' R' M' ∧ eqI [] I I' ∧ eqR [44] R R') ∨ (∃  (I' : rI) (R' : rR), (s_fe f 3 p0 e = some e) ∧ (clA f E (p0 + 2) (by2 f p0) 0 = 0) ∧ v = some (.int 32) ∧ RS g m0 q z I' R' M' ∧ eqI [] I I' ∧ eqR [44] R R') ∨ (∃  (I' : rI) (R' : rR), (s_fe f 3 p0 e = some e) ∧ (¬ clA f E (p0 + 2) (by2 f p0) 0 = 0) ∧ v = some (.int 0) ∧ RS g m0 q z I' R' M' ∧ eqI [] I I' ∧ eqR [44] R R' ∧ MW f x (K.1, K.2.1, by2 f p0) R0 I' R'))) := by
    intro kf
    induction kf with
    | zero => exact (by intros; exact pl_0)
    | succ kf ih =>
      intro i M1 I1 R1 hR1 hEI1 hER1 hl51 hl52 hl53 hF1 hY1 hP1 hW1 hfe hi hle hs
      have hn := hF1.1
      have hu9 := by2_lt f p0
      have hs6 := sb_lt s3 6
      have hs7 := sb_lt s3 7
      refine ps_st1 (S' := (270, [(0, .ref m0), (1, .int 2), (3, .int (nI p0)), (5, .int (nI x)), (6, .int (nI s3)), (9, .int (nI i))], [.int (nI i)], M1)) rfl rfl rfl ?_
      refine ps_st (S' := (271, [(0, .ref m0), (1, .int 2), (3, .int (nI p0)), (5, .int (nI x)), (6, .int (nI s3)), (9, .int (nI i))], [.ref m0, .int (nI i)], M1)) rfl rfl rfl ?_
      refine ps_st (S' := (272, [(0, .ref m0), (1, .int 2), (3, .int (nI p0)), (5, .int (nI x)), (6, .int (nI s3)), (9, .int (nI i))], [.int (nI p0), .ref m0, .int (nI i)], M1)) rfl rfl rfl ?_
      refine pl_call (a := [.ref m0, .int (nI p0)]) (rest := [.int (nI i)]) rfl rfl rfl (rd_u2 (n := n) (f := f) (p := p0) hR1 hF1 (by omega)) (fun v1 M2 q3 => ?_)
      obtain ⟨rfl, rfl⟩ := q3
      show pl _ _ _ (275, [(0, .ref m0), (1, .int 2), (3, .int (nI p0)), (5, .int (nI x)), (6, .int (nI s3)), (9, .int (nI i))], [.int (nI (by2 f p0)), .int (nI i)], M1) _
      have hu_272 := by2_lt f p0
      refine ps_if2 (S1 := (329, [(0, .ref m0), (1, .int 2), (3, .int (nI p0)), (5, .int (nI x)), (6, .int (nI s3)), (9, .int (nI i))], [], M1)) (S2 := (278, [(0, .ref m0), (1, .int 2), (3, .int (nI p0)), (5, .int (nI x)), (6, .int (nI s3)), (9, .int (nI i))], [], M1)) rfl rfl rfl (fun c_275 => ?_) (fun c_275 => ?_)
      · have c_275 : (nI (by2 f p0)) ≤ (nI i) := of_decide_eq_true c_275
        have n_275 : by2 f p0 ≤ i := (le_nI (p := by2 f p0) (n := i) (Nat.lt_trans (by2_lt _ _) (by decide)) (by omega)).mp c_275
        refine ps_st (S' := (330, [(0, .ref m0), (1, .int 2), (3, .int (nI p0)), (5, .int (nI x)), (6, .int (nI s3)), (9, .int (nI i))], [.int 2], M1)) rfl rfl rfl ?_
        refine ps_st (S' := (332, [(0, .ref m0), (1, .int 2), (3, .int (nI p0)), (5, .int (nI x)), (6, .int (nI s3)), (9, .int (nI i))], [.int 7, .int 2], M1)) rfl rfl rfl ?_
        refine ps_if2 (S1 := (349, [(0, .ref m0), (1, .int 2), (3, .int (nI p0)), (5, .int (nI x))], [], M1)) (S2 := (335, [(0, .ref m0), (1, .int 2), (3, .int (nI p0)), (5, .int (nI x)), (6, .int (nI s3)), (9, .int (nI i))], [], M1)) rfl rfl rfl (fun c_332 => ?_) (fun c_332 => ?_)
        rotate_left
        · exact absurd (by decide) (of_decide_eq_false c_332)
        refine ps_st (S' := (350, [(0, .ref m0), (1, .int 2), (3, .int (nI p0)), (5, .int (nI x))], [.int 2], M1)) rfl rfl rfl ?_
        refine ps_st (S' := (351, [(0, .ref m0), (1, .int 2), (3, .int (nI p0)), (5, .int (nI x))], [.int 2, .int 2], M1)) rfl rfl rfl ?_
        refine ps_if2 (S1 := (366, [(0, .ref m0), (1, .int 2), (3, .int (nI p0))], [], M1)) (S2 := (354, [(0, .ref m0), (1, .int 2), (3, .int (nI p0)), (5, .int (nI x))], [], M1)) rfl rfl rfl (fun c_351 => ?_) (fun c_351 => ?_)
        · exact absurd (of_decide_eq_true c_351) (by decide)
        refine ps_st (S' := (355, [(0, .ref m0), (1, .int 2), (3, .int (nI p0)), (5, .int (nI x))], [.ref m0], M1)) rfl rfl rfl ?_
        refine pr_ref (j := 44) (S' := (358, [(0, .ref m0), (1, .int 2), (3, .int (nI p0)), (5, .int (nI x))], [.ref (q 44)], M1)) rfl hR1 rfl rfl ?_
        refine ps_st (S' := (360, [(0, .ref m0), (1, .int 2), (3, .int (nI p0)), (5, .int (nI x))], [.int (nI x), .ref (q 44)], M1)) rfl rfl rfl ?_
        refine ps_st (S' := (361, [(0, .ref m0), (1, .int 2), (3, .int (nI p0)), (5, .int (nI x))], [.ref m0, .int (nI x), .ref (q 44)], M1)) rfl rfl rfl ?_
        refine ps_st (S' := (362, [(0, .ref m0), (1, .int 2), (3, .int (nI p0)), (5, .int (nI x))], [.int (nI p0), .ref m0, .int (nI x), .ref (q 44)], M1)) rfl rfl rfl ?_
        refine pl_call (a := [.ref m0, .int (nI p0)]) (rest := [.int (nI x), .ref (q 44)]) rfl rfl rfl (rd_u2 (n := n) (f := f) (p := p0) hR1 hF1 (by omega)) (fun v4 M5 q6 => ?_)
        obtain ⟨rfl, rfl⟩ := q6
        show pl _ _ _ (365, [(0, .ref m0), (1, .int 2), (3, .int (nI p0)), (5, .int (nI x))], [.int (nI (by2 f p0)), .int (nI x), .ref (q 44)], M1) _
        have hu_362 := by2_lt f p0
        refine pr_st (a := 44) (j := x) rfl hR1 rfl (by omega) (fun M7 R8 i1_365 hR9 hS10 => ?_)
        have hF_11 := hF1.mono (fun _ _ => rfl) (rRx hS10 (by decide))
        have hY_12 := hY1.mono (fun _ _ => rfl) (rRx hS10 (by decide))
        have hP_13 := hP1.mono (fun _ _ => rfl) (rRx hS10 (by decide))
        have hER14 := hER1.st hS10 (by decide)
        show pl _ _ _ (366, [(0, .ref m0), (1, .int 2), (3, .int (nI p0))], [], M7) _
        have hW_15 := MW.s44 (I' := I1) hW1 hS10
        refine ps_st (S' := (367, [(0, .ref m0), (1, .int 2), (3, .int (nI p0))], [.int 2], M7)) rfl rfl rfl ?_
        refine ps_st (S' := (369, [(0, .ref m0), (1, .int 2), (3, .int (nI p0))], [.int 7, .int 2], M7)) rfl rfl rfl ?_
        refine ps_if2 (S1 := (381, [(0, .ref m0), (1, .int 2), (3, .int (nI p0))], [], M7)) (S2 := (372, [(0, .ref m0), (1, .int 2), (3, .int (nI p0))], [], M7)) rfl rfl rfl (fun c_369 => ?_) (fun c_369 => ?_)
        rotate_left
        · exact absurd (by decide) (of_decide_eq_false c_369)
        refine ps_st (S' := (382, [(0, .ref m0), (1, .int 2), (3, .int (nI p0))], [.int 2], M7)) rfl rfl rfl ?_
        refine ps_st (S' := (384, [(0, .ref m0), (1, .int 2), (3, .int (nI p0))], [.int 9, .int 2], M7)) rfl rfl rfl ?_
        refine ps_if2 (S1 := (396, [], [], M7)) (S2 := (387, [(0, .ref m0), (1, .int 2), (3, .int (nI p0))], [], M7)) rfl rfl rfl (fun c_384 => ?_) (fun c_384 => ?_)
        rotate_left
        · exact absurd (by decide) (of_decide_eq_false c_384)
        refine ps_st (S' := (397, [], [.int 0], M7)) rfl rfl rfl ?_
        exact ps_ret rfl rfl (Or.inr (Or.inr ⟨I1, R8, hfe, by rw [← hs, show by2 f p0 - i = 0 by omega]; exact Nat.one_ne_zero, rfl, hR9, hEI1, hER14, hW_15⟩))
      · have c_275 : ¬ ((nI (by2 f p0)) ≤ (nI i)) := of_decide_eq_false c_275
        have n_275 : ¬ (by2 f p0 ≤ i) := fun h9 => c_275 ((le_nI (p := by2 f p0) (n := i) (Nat.lt_trans (by2_lt _ _) (by decide)) (by omega)).mpr h9)
        refine ps_st (S' := (279, [(0, .ref m0), (1, .int 2), (3, .int (nI p0)), (5, .int (nI x)), (6, .int (nI s3)), (9, .int (nI i))], [.ref m0], M1)) rfl rfl rfl ?_
        refine ps_st (S' := (280, [(0, .ref m0), (1, .int 2), (3, .int (nI p0)), (5, .int (nI x)), (6, .int (nI s3)), (9, .int (nI i))], [.ref m0, .ref m0], M1)) rfl rfl rfl ?_
        refine ps_st (S' := (281, [(0, .ref m0), (1, .int 2), (3, .int (nI p0)), (5, .int (nI x)), (6, .int (nI s3)), (9, .int (nI i))], [.int (nI p0), .ref m0, .ref m0], M1)) rfl rfl rfl ?_
        refine ps_st (S' := (282, [(0, .ref m0), (1, .int 2), (3, .int (nI p0)), (5, .int (nI x)), (6, .int (nI s3)), (9, .int (nI i))], [.int 2, .int (nI p0), .ref m0, .ref m0], M1)) rfl rfl rfl ?_
        refine ps_st (S' := (283, [(0, .ref m0), (1, .int 2), (3, .int (nI p0)), (5, .int (nI x)), (6, .int (nI s3)), (9, .int (nI i))], [.int ((nI p0) + 2), .ref m0, .ref m0], M1)) rfl rfl rfl ?_
        rw [nI_add1 (p := p0) (k := 2) (x := 2) rfl (by omega)]
        show pl _ _ _ (_, [(0, .ref m0), (1, .int 2), (3, .int (nI p0)), (5, .int (nI x)), (6, .int (nI s3)), (9, .int (nI i))], [.int (nI (p0 + 2)), .ref m0, .ref m0], M1) _
        refine ps_st (S' := (284, [(0, .ref m0), (1, .int 2), (3, .int (nI p0)), (5, .int (nI x)), (6, .int (nI s3)), (9, .int (nI i))], [.int 2, .int (nI (p0 + 2)), .ref m0, .ref m0], M1)) rfl rfl rfl ?_
        refine ps_st (S' := (286, [(0, .ref m0), (1, .int 2), (3, .int (nI p0)), (5, .int (nI x)), (6, .int (nI s3)), (9, .int (nI i))], [.int (nI i), .int 2, .int (nI (p0 + 2)), .ref m0, .ref m0], M1)) rfl rfl rfl ?_
        refine ps_st (S' := (287, [(0, .ref m0), (1, .int 2), (3, .int (nI p0)), (5, .int (nI x)), (6, .int (nI s3)), (9, .int (nI i))], [.int (2 * (nI i)), .int (nI (p0 + 2)), .ref m0, .ref m0], M1)) rfl rfl rfl ?_
        rw [nI_mul1 (p := 2) (k := i) (x := 2) (y := (nI i)) rfl rfl (by omega)]
        show pl _ _ _ (_, [(0, .ref m0), (1, .int 2), (3, .int (nI p0)), (5, .int (nI x)), (6, .int (nI s3)), (9, .int (nI i))], [.int (nI (2 * i)), .int (nI (p0 + 2)), .ref m0, .ref m0], M1) _
        refine ps_st (S' := (288, [(0, .ref m0), (1, .int 2), (3, .int (nI p0)), (5, .int (nI x)), (6, .int (nI s3)), (9, .int (nI i))], [.int ((nI (p0 + 2)) + (nI (2 * i))), .ref m0, .ref m0], M1)) rfl rfl rfl ?_
        rw [nI_add1 (p := p0 + 2) (k := 2 * i) (x := (nI (2 * i))) rfl (by omega)]
        show pl _ _ _ (_, [(0, .ref m0), (1, .int 2), (3, .int (nI p0)), (5, .int (nI x)), (6, .int (nI s3)), (9, .int (nI i))], [.int (nI (p0 + 2 + 2 * i)), .ref m0, .ref m0], M1) _
        refine pl_call (a := [.ref m0, .int (nI (p0 + 2 + 2 * i))]) (rest := [.ref m0]) rfl rfl rfl (rd_u2 (n := n) (f := f) (p := (p0 + 2 + 2 * i)) hR1 hF1 (by omega)) (fun v16 M17 q18 => ?_)
        obtain ⟨rfl, rfl⟩ := q18
        show pl _ _ _ (291, [(0, .ref m0), (1, .int 2), (3, .int (nI p0)), (5, .int (nI x)), (6, .int (nI s3)), (9, .int (nI i))], [.int (nI (by2 f (p0 + 2 + 2 * i))), .ref m0], M1) _
        have hu_288 := by2_lt f (p0 + 2 + 2 * i)
        refine pl_call (a := [.ref m0, .int (nI (by2 f (p0 + 2 + 2 * i)))]) (rest := []) rfl rfl rfl (rd_tag (n := n) (f := f) (tx := tx) (cN := cN) (A := A) (N := N) (mj := mj) (E := E) (k := (by2 f (p0 + 2 + 2 * i))) hR1 hl51 hl52 hl53 hF1 hY1 hP1 (hEP) (hN) (hmj) (by2_lt _ _)) (fun v19 M20 q21 => ?_)
        obtain ⟨rfl, rfl⟩ := q21
        show pl _ _ _ (294, [(0, .ref m0), (1, .int 2), (3, .int (nI p0)), (5, .int (nI x)), (6, .int (nI s3)), (9, .int (nI i))], [.int (nI (tg f E (by2 f (p0 + 2 + 2 * i))))], M1) _
        have htg_291 := tg_lt f E (by2 f (p0 + 2 + 2 * i))
        refine ps_st (S' := (296, [(0, .ref m0), (1, .int 2), (3, .int (nI p0)), (5, .int (nI x)), (6, .int (nI s3)), (9, .int (nI i))], [.int 7, .int (nI (tg f E (by2 f (p0 + 2 + 2 * i))))], M1)) rfl rfl rfl ?_
        refine ps_if2 (S1 := (323, [(0, .ref m0), (1, .int 2), (3, .int (nI p0)), (5, .int (nI x)), (6, .int (nI s3)), (9, .int (nI i))], [], M1)) (S2 := (299, [(0, .ref m0), (1, .int 2), (3, .int (nI p0)), (5, .int (nI x)), (6, .int (nI s3)), (9, .int (nI i))], [], M1)) rfl rfl rfl (fun c_296 => ?_) (fun c_296 => ?_)
        · have c_296 : (nI (tg f E (by2 f (p0 + 2 + 2 * i)))) = 7 := of_decide_eq_true c_296
          have n_296 : tg f E (by2 f (p0 + 2 + 2 * i)) = 7 := (eq_nI (p := tg f E (by2 f (p0 + 2 + 2 * i))) (n := 7) (Nat.lt_trans (tg_lt _ _ _) (by decide)) (by decide)).mp c_296
          refine ps_st (S' := (326, [(9, .int ((nI i) + 1)), (0, .ref m0), (1, .int 2), (3, .int (nI p0)), (5, .int (nI x)), (6, .int (nI s3))], [], M1)) rfl rfl rfl ?_
          rw [nI_add1 (p := i) (k := 1) (x := 1) rfl (by omega)]
          show pl _ _ _ (_, [(9, .int (nI (i + 1))), (0, .ref m0), (1, .int 2), (3, .int (nI p0)), (5, .int (nI x)), (6, .int (nI s3))], [], M1) _
          refine ps_st (S' := (268, [(0, .ref m0), (1, .int 2), (3, .int (nI p0)), (5, .int (nI x)), (6, .int (nI s3)), (9, .int (nI (i + 1)))], [], M1)) rfl rfl rfl ?_
          exact ih (i + 1) M1 I1 R1 hR1 hEI1 hER1 hl51 hl52 hl53 hF1 hY1 hP1 hW1 (hfe) (by omega) (hle) (by
              rw [← hs, clA_st (i := i) (by omega), if_pos (by omega)])
        · have c_296 : ¬ ((nI (tg f E (by2 f (p0 + 2 + 2 * i)))) = 7) := of_decide_eq_false c_296
          have n_296 : ¬ (tg f E (by2 f (p0 + 2 + 2 * i)) = 7) := fun h9 => c_296 ((eq_nI (p := tg f E (by2 f (p0 + 2 + 2 * i))) (n := 7) (Nat.lt_trans (tg_lt _ _ _) (by decide)) (by decide)).mpr h9)
          refine ps_st (S' := (300, [(0, .ref m0), (1, .int 2), (3, .int (nI p0)), (5, .int (nI x)), (6, .int (nI s3)), (9, .int (nI i))], [.int 2], M1)) rfl rfl rfl ?_
          refine ps_st (S' := (301, [(0, .ref m0), (1, .int 2), (3, .int (nI p0)), (5, .int (nI x)), (6, .int (nI s3)), (9, .int (nI i))], [.int 2, .int 2], M1)) rfl rfl rfl ?_
          refine ps_if2 (S1 := (309, [(0, .ref m0), (1, .int 2), (3, .int (nI p0)), (5, .int (nI x)), (6, .int (nI s3)), (9, .int (nI i))], [], M1)) (S2 := (304, [(0, .ref m0), (1, .int 2), (3, .int (nI p0)), (5, .int (nI x)), (6, .int (nI s3)), (9, .int (nI i))], [], M1)) rfl rfl rfl (fun c_301 => ?_) (fun c_301 => ?_)
          · exact absurd (of_decide_eq_true c_301) (by decide)
          refine ps_st (S' := (306, [(0, .ref m0), (1, .int 2), (3, .int (nI p0)), (5, .int (nI x)), (6, .int (nI s3)), (9, .int (nI i))], [.int 32], M1)) rfl rfl rfl ?_
          refine ps_st (S' := (322, [], [.int 32], M1)) rfl rfl rfl ?_
          exact ps_ret rfl rfl (Or.inr (Or.inl ⟨I1, R1, hfe, by rw [← hs, clA_st (i := i) (by omega), if_neg (by omega)], rfl, hR1, hEI1, hER1⟩))
  refine ps_st (S' := (1, [(0, .ref m0), (1, .int 2), (2, .int t), (3, .int (nI p0)), (4, .int (nI e)), (5, .int (nI x)), (6, .int (nI s3))], [.int 2], M)) rfl rfl rfl ?_
  refine ps_st (S' := (219, [(0, .ref m0), (1, .int 2), (2, .int t), (3, .int (nI p0)), (4, .int (nI e)), (5, .int (nI x)), (6, .int (nI s3))], [], M)) rfl rfl rfl ?_
  refine ps_st (S' := (221, [(0, .ref m0), (1, .int 2), (2, .int t), (3, .int (nI p0)), (4, .int (nI e)), (5, .int (nI x)), (6, .int (nI s3))], [.int (nI e)], M)) rfl rfl rfl ?_
  refine ps_st (S' := (222, [(0, .ref m0), (1, .int 2), (2, .int t), (3, .int (nI p0)), (4, .int (nI e)), (5, .int (nI x)), (6, .int (nI s3))], [.int (nI p0), .int (nI e)], M)) rfl rfl rfl ?_
  refine ps_st (S' := (223, [(0, .ref m0), (1, .int 2), (2, .int t), (3, .int (nI p0)), (4, .int (nI e)), (5, .int (nI x)), (6, .int (nI s3))], [.int ((nI e) - (nI p0))], M)) rfl rfl rfl ?_
  rw [nI_sub1 (p := e) (k := p0) (x := (nI p0)) rfl (by omega) (by omega)]
  show pl _ _ _ (_, [(0, .ref m0), (1, .int 2), (2, .int t), (3, .int (nI p0)), (4, .int (nI e)), (5, .int (nI x)), (6, .int (nI s3))], [.int (nI (e - p0))], M) _
  refine ps_st (S' := (224, [(0, .ref m0), (1, .int 2), (2, .int t), (3, .int (nI p0)), (4, .int (nI e)), (5, .int (nI x)), (6, .int (nI s3))], [.int 2, .int (nI (e - p0))], M)) rfl rfl rfl ?_
  refine ps_if2 (S1 := (243, [], [], M)) (S2 := (227, [(0, .ref m0), (1, .int 2), (2, .int t), (3, .int (nI p0)), (4, .int (nI e)), (5, .int (nI x)), (6, .int (nI s3))], [], M)) rfl rfl rfl (fun c_224 => ?_) (fun c_224 => ?_)
  · have c_224 : (nI (e - p0)) < 2 := of_decide_eq_true c_224
    have n_224 : e - p0 < 2 := (lt_nI (p := e - p0) (n := 2) (by omega) (by decide)).mp c_224
    refine ps_st (S' := (245, [], [.int 30], M)) rfl rfl rfl ?_
    exact ps_ret rfl rfl (Or.inl ⟨I, R, fe_2 (by omega), rfl, hR, hEI, hER⟩)
  · have c_224 : ¬ ((nI (e - p0)) < 2) := of_decide_eq_false c_224
    have n_224 : ¬ (e - p0 < 2) := fun h9 => c_224 ((lt_nI (p := e - p0) (n := 2) (by omega) (by decide)).mpr h9)
    refine ps_st (S' := (229, [(0, .ref m0), (1, .int 2), (2, .int t), (3, .int (nI p0)), (4, .int (nI e)), (5, .int (nI x)), (6, .int (nI s3))], [.int (nI e)], M)) rfl rfl rfl ?_
    refine ps_st (S' := (230, [(0, .ref m0), (1, .int 2), (2, .int t), (3, .int (nI p0)), (4, .int (nI e)), (5, .int (nI x)), (6, .int (nI s3))], [.int (nI p0), .int (nI e)], M)) rfl rfl rfl ?_
    refine ps_st (S' := (231, [(0, .ref m0), (1, .int 2), (2, .int t), (3, .int (nI p0)), (4, .int (nI e)), (5, .int (nI x)), (6, .int (nI s3))], [.int ((nI e) - (nI p0))], M)) rfl rfl rfl ?_
    rw [nI_sub1 (p := e) (k := p0) (x := (nI p0)) rfl (by omega) (by omega)]
    show pl _ _ _ (_, [(0, .ref m0), (1, .int 2), (2, .int t), (3, .int (nI p0)), (4, .int (nI e)), (5, .int (nI x)), (6, .int (nI s3))], [.int (nI (e - p0))], M) _
    refine ps_st (S' := (232, [(0, .ref m0), (1, .int 2), (2, .int t), (3, .int (nI p0)), (4, .int (nI e)), (5, .int (nI x)), (6, .int (nI s3))], [.int 2, .int (nI (e - p0))], M)) rfl rfl rfl ?_
    refine ps_st (S' := (233, [(0, .ref m0), (1, .int 2), (2, .int t), (3, .int (nI p0)), (4, .int (nI e)), (5, .int (nI x)), (6, .int (nI s3))], [.int 2, .int 2, .int (nI (e - p0))], M)) rfl rfl rfl ?_
    refine ps_st (S' := (234, [(0, .ref m0), (1, .int 2), (2, .int t), (3, .int (nI p0)), (4, .int (nI e)), (5, .int (nI x)), (6, .int (nI s3))], [.ref m0, .int 2, .int 2, .int (nI (e - p0))], M)) rfl rfl rfl ?_
    refine ps_st (S' := (235, [(0, .ref m0), (1, .int 2), (2, .int t), (3, .int (nI p0)), (4, .int (nI e)), (5, .int (nI x)), (6, .int (nI s3))], [.int (nI p0), .ref m0, .int 2, .int 2, .int (nI (e - p0))], M)) rfl rfl rfl ?_
    refine pl_call (a := [.ref m0, .int (nI p0)]) (rest := [.int 2, .int 2, .int (nI (e - p0))]) rfl rfl rfl (rd_u2 (n := n) (f := f) (p := p0) hR hF (by omega)) (fun v22 M23 q24 => ?_)
    obtain ⟨rfl, rfl⟩ := q24
    show pl _ _ _ (238, [(0, .ref m0), (1, .int 2), (2, .int t), (3, .int (nI p0)), (4, .int (nI e)), (5, .int (nI x)), (6, .int (nI s3))], [.int (nI (by2 f p0)), .int 2, .int 2, .int (nI (e - p0))], M) _
    have hu_235 := by2_lt f p0
    refine ps_st (S' := (239, [(0, .ref m0), (1, .int 2), (2, .int t), (3, .int (nI p0)), (4, .int (nI e)), (5, .int (nI x)), (6, .int (nI s3))], [.int (2 * (nI (by2 f p0))), .int 2, .int (nI (e - p0))], M)) rfl rfl rfl ?_
    rw [nI_mul1 (p := 2) (k := by2 f p0) (x := 2) (y := (nI (by2 f p0))) rfl rfl (by omega)]
    show pl _ _ _ (_, [(0, .ref m0), (1, .int 2), (2, .int t), (3, .int (nI p0)), (4, .int (nI e)), (5, .int (nI x)), (6, .int (nI s3))], [.int (nI (2 * (by2 f p0))), .int 2, .int (nI (e - p0))], M) _
    refine ps_st (S' := (240, [(0, .ref m0), (1, .int 2), (2, .int t), (3, .int (nI p0)), (4, .int (nI e)), (5, .int (nI x)), (6, .int (nI s3))], [.int (2 + (nI (2 * (by2 f p0)))), .int (nI (e - p0))], M)) rfl rfl rfl ?_
    rw [nI_add2 (p := 2) (k := 2 * (by2 f p0)) (x := 2) (y := (nI (2 * (by2 f p0)))) rfl rfl (by omega)]
    show pl _ _ _ (_, [(0, .ref m0), (1, .int 2), (2, .int t), (3, .int (nI p0)), (4, .int (nI e)), (5, .int (nI x)), (6, .int (nI s3))], [.int (nI (2 + 2 * (by2 f p0))), .int (nI (e - p0))], M) _
    refine ps_if2 (S1 := (246, [(0, .ref m0), (1, .int 2), (2, .int t), (3, .int (nI p0)), (4, .int (nI e)), (5, .int (nI x)), (6, .int (nI s3))], [], M)) (S2 := (243, [], [], M)) rfl rfl rfl (fun c_240 => ?_) (fun c_240 => ?_)
    · have c_240 : (nI (e - p0)) = (nI (2 + 2 * (by2 f p0))) := of_decide_eq_true c_240
      have n_240 : e - p0 = 2 + 2 * (by2 f p0) := (eq_nI (p := e - p0) (n := 2 + 2 * (by2 f p0)) (by omega) (by omega)).mp c_240
      refine ps_st (S' := (247, [(0, .ref m0), (1, .int 2), (2, .int t), (3, .int (nI p0)), (4, .int (nI e)), (5, .int (nI x)), (6, .int (nI s3))], [.int 2], M)) rfl rfl rfl ?_
      refine ps_st (S' := (249, [(0, .ref m0), (1, .int 2), (2, .int t), (3, .int (nI p0)), (4, .int (nI e)), (5, .int (nI x)), (6, .int (nI s3))], [.int 9, .int 2], M)) rfl rfl rfl ?_
      refine ps_if2 (S1 := (265, [(0, .ref m0), (1, .int 2), (3, .int (nI p0)), (5, .int (nI x)), (6, .int (nI s3))], [], M)) (S2 := (252, [(0, .ref m0), (1, .int 2), (2, .int t), (3, .int (nI p0)), (4, .int (nI e)), (5, .int (nI x)), (6, .int (nI s3))], [], M)) rfl rfl rfl (fun c_249 => ?_) (fun c_249 => ?_)
      rotate_left
      · exact absurd (by decide) (of_decide_eq_false c_249)
      refine ps_st (S' := (266, [(0, .ref m0), (1, .int 2), (3, .int (nI p0)), (5, .int (nI x)), (6, .int (nI s3))], [.int 0], M)) rfl rfl rfl ?_
      refine ps_st (S' := (268, [(0, .ref m0), (1, .int 2), (3, .int (nI p0)), (5, .int (nI x)), (6, .int (nI s3)), (9, .int 0)], [], M)) rfl rfl rfl ?_
      exact (LL kf) (0) M I R hR hEI hER hi51 hi52 hi53 hF hY hP hW ((fe_c (by decide) (by omega)).trans (congrArg some (by omega))) (by omega) (by omega) (rfl)
    · have c_240 : ¬ ((nI (e - p0)) = (nI (2 + 2 * (by2 f p0)))) := of_decide_eq_false c_240
      have n_240 : ¬ (e - p0 = 2 + 2 * (by2 f p0)) := fun h9 => c_240 ((eq_nI (p := e - p0) (n := 2 + 2 * (by2 f p0)) (by omega) (by omega)).mpr h9)
      refine ps_st (S' := (245, [], [.int 30], M)) rfl rfl rfl ?_
      exact ps_ret rfl rfl (Or.inl ⟨I, R, (fun h9 => (by have h8 := Option.some.inj ((fe_c (by decide) (by omega)).symm.trans h9); omega)), rfl, hR, hEI, hER⟩)
set_option maxHeartbeats 1000000 in
theorem rd_attrM7 {g : xe_G} {m0 : Nat} {q : Nat → Nat} {z : Nat × Nat} {I : rI} {R : rR} {M : mi_H} {n : Nat} {f : Nat → Int32} {tx : List (List Nat)} {cN : Nat} {A : Nat → Nat} {N mj : Nat} {E : List (Nat × Nat)} {p e x s3 w fl ds wa h : Nat} {l : List Nat} {t : Int32} {K : Nat × Nat × Nat} {R0 : rR} (hR : RS g m0 q z I R M) (hi51 : I 51 = some 0) (hi52 : I 52 = some (nI N)) (hi53 : I 53 = some (nI mj)) (hF : FK n f I R) (hY : SYT tx cN A I R) (hP : RPV f n E tx N I R) (hK : KX I R) (hX : MX fl ds x I R) (hC : CX h x I R) (hW : MW f x K R0 I R) (hEP : EP f n E) (hN : N < 65536) (hmj : mj < 65536) (he : p + 6 ≤ e ∧ e ≤ n) (hs3 : s3 < 2048) (hx : x < 8300) (hdt : ds < tx.length ∧ tx.getD ds [] = l) (hmt : ¬ mthN l = 0) (hf6 : fl < 65536) (hwa : wa = argN l + (if aN fl 8 = 0 then 1 else 0)) (hw : w = 1 ∨ w = 2) (hp0 : ¬ p = 0) : pt (mT g) 177 [.ref m0, .int (nI w), .int t, .int (nI (p + 6)), .int (nI e), .int (nI x), .int (nI s3)] M (fun v M' => (∃  (I' : rI) (R' : rR), (¬ s_fe f (w + 1) (p + 6) e = some e) ∧ v = some (.int 30) ∧ RS g m0 q z I' R' M' ∧ eqI [47, 48] I I' ∧ eqR [37, 38, 39, 40, 41, 42, 44] R R') ∨ (∃ (r : Nat) (I' : rI) (R' : rR), (s_fe f (w + 1) (p + 6) e = some e) ∧ (mbS f n E mj wa w p = .inl (r, p)) ∧ (32 ≤ r ∧ r ≤ 43) ∧ v = some (.int (nI r)) ∧ RS g m0 q z I' R' M' ∧ eqI [47, 48] I I' ∧ eqR [37, 38, 39, 40, 41, 42, 44] R R') ∨ (∃ (e9 : Nat × Nat) (I' : rI) (R' : rR), (s_fe f (w + 1) (p + 6) e = some e) ∧ (mbS f n E mj wa w p = .inl e9) ∧ v = some (.int (-1)) ∧ RS g m0 q z I' R' M' ∧ eqI [47, 48] I I' ∧ eqR [37, 38, 39, 40, 41, 42, 44] R R' ∧ I' 47 = some (nI e9.1) ∧ I' 48 = some (nI e9.2)) ∨ (∃ (s' : Nat) (I' : rI) (R' : rR), (s_fe f (w + 1) (p + 6) e = some e) ∧ (mbS f n E mj wa w p = .inr s') ∧ v = some (.int 0) ∧ RS g m0 q z I' R' M' ∧ eqI [47, 48] I I' ∧ eqR [37, 38, 39, 40, 41, 42, 44] R R' ∧ CX (if w = 1 then 1 else h) x I' R' ∧ MW f x (if w = 1 then (K.1, p, K.2.2) else (K.1, K.2.1, by2 f (p + 6))) R0 I' R')) := by
  rcases hw with rfl | rfl
  · refine pt.mono (rd_attr17 (w := wa) (s3 := s3) (t := t) hR hi51 hi52 hi53 hF hY hP hK hW hEP hN hmj he hx hX.1 hX.2 hdt hmt hf6 hwa hp0) (fun v M' h9 => ?_)
    rcases h9 with ⟨I', R', hs, hv, hR', hI', hX'⟩ | ⟨r, I', R', hs, hb, hl, hv, hR', hI', hX'⟩ | ⟨e9, I', R', hs, hb, hv, hR', hI', hX', h47, h48⟩ | ⟨s', I', R', hs, hb, hc, hv, hR', hI', hX', hW'⟩
    · exact Or.inl ⟨I', R', hs, hv, hR', eqI.rf.tr hI' (by decide), eqR.rf.tr hX' (by decide)⟩
    · exact Or.inr (Or.inl ⟨r, I', R', hs, by unfold mbS; rw [if_pos rfl]; exact hb, by omega, hv, hR', eqI.rf.tr hI' (by decide), eqR.rf.tr hX' (by decide)⟩)
    · exact Or.inr (Or.inr (Or.inl ⟨e9, I', R', hs, by unfold mbS; rw [if_pos rfl]; exact hb, hv, hR', eqI.rf.tr hI' (by decide), eqR.rf.tr hX' (by decide), h47, h48⟩))
    · exact Or.inr (Or.inr (Or.inr ⟨s', I', R', hs, by unfold mbS; rw [if_pos rfl]; exact hb, hv, hR', eqI.rf.tr hI' (by decide), eqR.rf.tr hX' (by decide), by (unfold CX; rw [if_pos rfl, if_neg (by decide)]; exact ⟨p + 14, by have := hF.1; omega, hc⟩), by (rw [if_pos rfl]; exact hW')⟩))
  · refine pt.mono (rd_attr27 (p0 := p + 6) hR hi51 hi52 hi53 hF hY hP hW hEP hN hmj he hs3 hx) (fun v M' h9 => ?_)
    rcases h9 with ⟨I', R', hs, hv, hR', hI', hX'⟩ | ⟨I', R', hs, hb, hv, hR', hI', hX'⟩ | ⟨I', R', hs, hb, hv, hR', hI', hX', hW'⟩
    · exact Or.inl ⟨I', R', hs, hv, hR', eqI.rf.tr hI' (by decide), eqR.rf.tr hX' (by decide)⟩
    · exact Or.inr (Or.inl ⟨32, I', R', hs, by unfold mbS; rw [if_neg (by decide), if_pos hb], by decide, hv, hR', eqI.rf.tr hI' (by decide), eqR.rf.tr hX' (by decide)⟩)
    · exact Or.inr (Or.inr (Or.inr ⟨0, I', R', hs, by unfold mbS; rw [if_neg (by decide), if_neg hb], hv, hR', eqI.rf.tr hI' (by decide), eqR.rf.tr hX' (by decide), by (rw [if_neg (by decide)]; exact hC.mono (fun _ h => absurd h (List.not_mem_nil)) (cRx hX' (by decide))), by (rw [if_neg (by decide)]; exact hW')⟩))
set_option maxHeartbeats 4000000 in
theorem rd_checkAttributes27 {g : xe_G} {m0 : Nat} {q : Nat → Nat} {z : Nat × Nat} {I : rI} {R : rR} {M : mi_H} {n : Nat} {f : Nat → Int32} {tx : List (List Nat)} {cN : Nat} {A : Nat → Nat} {N mj : Nat} {E : List (Nat × Nat)} {p1 e x fl ds wa : Nat} {l : List Nat} {R0 : rR} (hR : RS g m0 q z I R M) (hi51 : I 51 = some 0) (hi52 : I 52 = some (nI N)) (hi53 : I 53 = some (nI mj)) (hF : FK n f I R) (hY : SYT tx cN A I R) (hP : RPV f n E tx N I R) (hK : KX I R) (hX : MX fl ds x I R) (hC : CX 0 x I R) (hW : MW f x (0, 0, 0) R0 I R) (hEP : EP f n E) (hN : N < 65536) (hmj : mj < 65536) (hin : p1 + 2 ≤ e ∧ e ≤ n) (hat : s_atE f e (by2 f p1) (p1 + 2) = some e) (hx : x < 8300) (hdt : ds < tx.length ∧ tx.getD ds [] = l) (hmt : ¬ mthN l = 0) (hf6 : fl < 65536) (hwa : wa = argN l + (if aN fl 8 = 0 then 1 else 0)) : pt (mT g) 187 [.ref m0, .int (nI p1), .int 2, .int (nI x)] M (fun v M' => (∃ (e9 : Nat × Nat) (I' : rI) (R' : rR), (maS f n E mj wa (by2 f p1) (p1 + 2) 0 0 = .inl e9) ∧ v = some (.int (-1)) ∧ RS g m0 q z I' R' M' ∧ eqI [47, 48] I I' ∧ eqR [37, 38, 39, 40, 41, 42, 43, 44] R R' ∧ I' 47 = some (nI e9.1) ∧ I' 48 = some (nI e9.2)) ∨ (∃ (h9 : Nat) (K : Nat × Nat × Nat) (I' : rI) (R' : rR), (maS f n E mj wa (by2 f p1) (p1 + 2) 0 0 = .inr h9) ∧ (maU f n E (by2 f p1) (p1 + 2) (0, 0, 0) = K) ∧ v = some (.int (nI e)) ∧ RS g m0 q z I' R' M' ∧ eqI [47, 48] I I' ∧ eqR [37, 38, 39, 40, 41, 42, 43, 44] R R' ∧ CX h9 x I' R' ∧ MW f x K R0 I' R')) := by
  refine pt_in (b := mb_187 g) rfl (fun kf => ?_)
  show pl (mT g) kf (mb_187 g).2 (0, [(0, .ref m0), (1, .int (nI p1)), (2, .int 2), (3, .int (nI x))], [], M) _
  have hEI : eqI [47, 48] I I := eqI.rf
  have hER : eqR [37, 38, 39, 40, 41, 42, 43, 44] R R := eqR.rf
  have hn := hF.1
  have LL : ∀ (kf : Nat), (∀ (i p s2 s3 : Nat) (h : Nat) (K : Nat × Nat × Nat) (M1 : mi_H) (I1 : rI) (R1 : rR), (RS g m0 q z I1 R1 M1) → (eqI [47, 48] I I1) → (eqR [37, 38, 39, 40, 41, 42, 43, 44] R R1) → (I1 51 = some 0) → (I1 52 = some (nI N)) → (I1 53 = some (nI mj)) → (FK n f I1 R1) → (SYT tx cN A I1 R1) → (RPV f n E tx N I1 R1) → (KX I1 R1) → (MX fl ds x I1 R1) → (CX h x I1 R1) → (MW f x K R0 I1 R1) → (i ≤ by2 f p1) → (s3 < 2048) → (sb s3 1 = sb s2 2 ∧ sb s3 2 = sb s2 3 ∧ (sb s2 2 = 0 → sb s2 4 = 0)) → (s_atE f e (by2 f p1 - i) p = some e) → (maS f n E mj wa (by2 f p1 - i) p s2 h = maS f n E mj wa (by2 f p1) (p1 + 2) 0 0) → (maU f n E (by2 f p1 - i) p K = maU f n E (by2 f p1) (p1 + 2) (0, 0, 0)) → (K.1 ≤ i) → (2 ≤ p) →  pl (mT g) kf (mb_187 g).2 (18, [(0, .ref m0), (2, .int 2), (3, .int (nI x)), (4, .int (nI (by2 f p1))), (5, .int (nI p)), (6, .int (nI s3)), (7, .int (nI i))], [], M1) (fun v M' => (∃ (e9 : Nat × Nat) (I' : rI) (R' : rR), (maS f n E mj wa (by2 f p1) (p1 + 2) 0 0 = .inl e9) ∧ v = some (.int (-1)) ∧ RS g m0 q z I' R' M' ∧ eqI [47, 48] I I' ∧ eqR [37, 38, 39, 40, 41, 42, 43, 44] R R' ∧ I' 47 = some (nI e9.1) ∧ I' 48 = some (nI e9.2)) ∨ (∃ (h9 : Nat) (K : Nat × Nat × Nat) (I' : rI) (R' : rR), (maS f n E mj wa (by2 f p1) (p1 + 2) 0 0 = .inr h9) ∧ (maU f n E (by2 f p1) (p1 + 2) (0, 0, 0) = K) ∧ v = some (.int (nI e)) ∧ RS g m0 q z I' R' M' ∧ eqI [47, 48] I I' ∧ eqR [37, 38, 39, 40, 41, 42, 43, 44] R R' ∧ CX h9 x I' R' ∧ MW f x K R0 I' R'))) ∧ (∀ (i p s2 s3 k t : Nat) (h : Nat) (K : Nat × Nat × Nat) (M1 : mi_H) (I1 : rI) (R1 : rR), (RS g m0 q z I1 R1 M1) → (eqI [47, 48] I I1) → (eqR [37, 38, 39, 40, 41, 42, 43, 44] R R1) → (I1 51 = some 0) → (I1 52 = some (nI N)) → (I1 53 = some (nI mj)) → (FK n f I1 R1) → (SYT tx cN A I1 R1) → (RPV f n E tx N I1 R1) → (KX I1 R1) → (MX fl ds x I1 R1) → (CX h x I1 R1) → (MW f x K R0 I1 R1) → (i < by2 f p1) → (s3 < 2048) → (sb s3 1 = sb s2 2 ∧ sb s3 2 = sb s2 3 ∧ (sb s2 2 = 0 → sb s2 4 = 0)) → (s_atE f e (by2 f p1 - i) p = some e) → (maS f n E mj wa (by2 f p1 - i) p s2 h = maS f n E mj wa (by2 f p1) (p1 + 2) 0 0) → (maU f n E (by2 f p1 - i) p K = maU f n E (by2 f p1) (p1 + 2) (0, 0, 0)) → (K.1 ≤ i) → (2 ≤ p) → (k ≤ 10) → (tg f E (by2 f p) = 1) → (t < tx.length ∧ tx.getD t [] = tX f n E (by2 f p)) →  pl (mT g) kf (mb_187 g).2 (79, [(0, .ref m0), (2, .int 2), (3, .int (nI x)), (4, .int (nI (by2 f p1))), (5, .int (nI p)), (6, .int (nI s3)), (7, .int (nI i)), (8, .int (nI (by4 f (p + 2)))), (9, .int (nI t)), (10, .int (gI (kb mj 2 (tX f n E (by2 f p)) k))), (11, .int (nI k))], [], M1) (fun v M' => (∃ (e9 : Nat × Nat) (I' : rI) (R' : rR), (maS f n E mj wa (by2 f p1) (p1 + 2) 0 0 = .inl e9) ∧ v = some (.int (-1)) ∧ RS g m0 q z I' R' M' ∧ eqI [47, 48] I I' ∧ eqR [37, 38, 39, 40, 41, 42, 43, 44] R R' ∧ I' 47 = some (nI e9.1) ∧ I' 48 = some (nI e9.2)) ∨ (∃ (h9 : Nat) (K : Nat × Nat × Nat) (I' : rI) (R' : rR), (maS f n E mj wa (by2 f p1) (p1 + 2) 0 0 = .inr h9) ∧ (maU f n E (by2 f p1) (p1 + 2) (0, 0, 0) = K) ∧ v = some (.int (nI e)) ∧ RS g m0 q z I' R' M' ∧ eqI [47, 48] I I' ∧ eqR [37, 38, 39, 40, 41, 42, 43, 44] R R' ∧ CX h9 x I' R' ∧ MW f x K R0 I' R'))) := by
    intro kf
    induction kf with
    | zero => exact ⟨by intros; exact pl_0, by intros; exact pl_0⟩
    | succ kf ih =>
      refine ⟨?_, ?_⟩
      · skip
        intro i p s2 s3 h K M1 I1 R1 hR1 hEI1 hER1 hl51 hl52 hl53 hF1 hY1 hP1 hK1 hX1 hC1 hW1 hi hl hb ha hs9 hu hkn hpp
        have hn := hF1.1
        have hu9 := by2_lt f p1
        have htl := hY1.1.2.2.1
        refine ps_st1 (S' := (20, [(0, .ref m0), (2, .int 2), (3, .int (nI x)), (4, .int (nI (by2 f p1))), (5, .int (nI p)), (6, .int (nI s3)), (7, .int (nI i))], [.int (nI i)], M1)) rfl rfl rfl ?_
        refine ps_st (S' := (22, [(0, .ref m0), (2, .int 2), (3, .int (nI x)), (4, .int (nI (by2 f p1))), (5, .int (nI p)), (6, .int (nI s3)), (7, .int (nI i))], [.int (nI (by2 f p1)), .int (nI i)], M1)) rfl rfl rfl ?_
        refine ps_if2 (S1 := (284, [(0, .ref m0), (2, .int 2), (3, .int (nI x)), (4, .int (nI (by2 f p1))), (5, .int (nI p)), (6, .int (nI s3)), (7, .int (nI i))], [], M1)) (S2 := (25, [(0, .ref m0), (2, .int 2), (3, .int (nI x)), (4, .int (nI (by2 f p1))), (5, .int (nI p)), (6, .int (nI s3)), (7, .int (nI i))], [], M1)) rfl rfl rfl (fun c_22 => ?_) (fun c_22 => ?_)
        · have c_22 : (nI (by2 f p1)) ≤ (nI i) := of_decide_eq_true c_22
          have n_22 : by2 f p1 ≤ i := (le_nI (p := by2 f p1) (n := i) (Nat.lt_trans (by2_lt _ _) (by decide)) (by omega)).mp c_22
          refine ps_st (S' := (286, [(0, .ref m0), (2, .int 2), (3, .int (nI x)), (4, .int (nI (by2 f p1))), (5, .int (nI p)), (6, .int (nI s3)), (7, .int (nI i))], [.int (nI p)], M1)) rfl rfl rfl ?_
          exact ps_reti rfl (Or.inr ⟨h, K, I1, R1, by rw [← hs9, show by2 f p1 - i = 0 by omega]; rfl, by rw [← hu, show by2 f p1 - i = 0 by omega]; rfl, by rw [show e = p by (rw [show by2 f p1 - i = 0 by omega] at ha; exact (Option.some.inj ha).symm)], hR1, hEI1, hER1, hC1, hW1⟩)
        · have c_22 : ¬ ((nI (by2 f p1)) ≤ (nI i)) := of_decide_eq_false c_22
          have n_22 : ¬ (by2 f p1 ≤ i) := fun h9 => c_22 ((le_nI (p := by2 f p1) (n := i) (Nat.lt_trans (by2_lt _ _) (by decide)) (by omega)).mpr h9)
          obtain ⟨hq5, hq6, hq7⟩ := s_atE_in (i := i) (p := p) ha (by omega)
          refine ps_st (S' := (26, [(0, .ref m0), (2, .int 2), (3, .int (nI x)), (4, .int (nI (by2 f p1))), (5, .int (nI p)), (6, .int (nI s3)), (7, .int (nI i))], [.ref m0], M1)) rfl rfl rfl ?_
          refine ps_st (S' := (28, [(0, .ref m0), (2, .int 2), (3, .int (nI x)), (4, .int (nI (by2 f p1))), (5, .int (nI p)), (6, .int (nI s3)), (7, .int (nI i))], [.int (nI p), .ref m0], M1)) rfl rfl rfl ?_
          refine ps_st (S' := (29, [(0, .ref m0), (2, .int 2), (3, .int (nI x)), (4, .int (nI (by2 f p1))), (5, .int (nI p)), (6, .int (nI s3)), (7, .int (nI i))], [.int 2, .int (nI p), .ref m0], M1)) rfl rfl rfl ?_
          refine ps_st (S' := (30, [(0, .ref m0), (2, .int 2), (3, .int (nI x)), (4, .int (nI (by2 f p1))), (5, .int (nI p)), (6, .int (nI s3)), (7, .int (nI i))], [.int ((nI p) + 2), .ref m0], M1)) rfl rfl rfl ?_
          rw [nI_add1 (p := p) (k := 2) (x := 2) rfl (by omega)]
          show pl _ _ _ (_, [(0, .ref m0), (2, .int 2), (3, .int (nI x)), (4, .int (nI (by2 f p1))), (5, .int (nI p)), (6, .int (nI s3)), (7, .int (nI i))], [.int (nI (p + 2)), .ref m0], M1) _
          refine pl_call (a := [.ref m0, .int (nI (p + 2))]) (rest := []) rfl rfl rfl (rd_u4 (n := n) (f := f) (p := (p + 2)) hR1 hF1 (by omega)) (fun v1 M2 q3 => ?_)
          obtain ⟨rfl, rfl⟩ := q3
          show pl _ _ _ (33, [(0, .ref m0), (2, .int 2), (3, .int (nI x)), (4, .int (nI (by2 f p1))), (5, .int (nI p)), (6, .int (nI s3)), (7, .int (nI i))], [.long (nL (by4 f (p + 2)))], M1) _
          have hu_30 := by4_lt f (p + 2)
          refine ps_st (S' := (34, [(0, .ref m0), (2, .int 2), (3, .int (nI x)), (4, .int (nI (by2 f p1))), (5, .int (nI p)), (6, .int (nI s3)), (7, .int (nI i))], [.int (Int64.toInt32 (nL (by4 f (p + 2))))], M1)) rfl rfl rfl ?_
          rw [l2i_nL (p := by4 f (p + 2)) (by omega)]
          show pl _ _ _ (_, [(0, .ref m0), (2, .int 2), (3, .int (nI x)), (4, .int (nI (by2 f p1))), (5, .int (nI p)), (6, .int (nI s3)), (7, .int (nI i))], [.int (nI (by4 f (p + 2)))], M1) _
          refine ps_st (S' := (36, [(8, .int (nI (by4 f (p + 2)))), (0, .ref m0), (2, .int 2), (3, .int (nI x)), (4, .int (nI (by2 f p1))), (5, .int (nI p)), (6, .int (nI s3)), (7, .int (nI i))], [], M1)) rfl rfl rfl ?_
          refine ps_st (S' := (37, [(8, .int (nI (by4 f (p + 2)))), (0, .ref m0), (2, .int 2), (3, .int (nI x)), (4, .int (nI (by2 f p1))), (5, .int (nI p)), (6, .int (nI s3)), (7, .int (nI i))], [.ref m0], M1)) rfl rfl rfl ?_
          refine ps_st (S' := (38, [(8, .int (nI (by4 f (p + 2)))), (0, .ref m0), (2, .int 2), (3, .int (nI x)), (4, .int (nI (by2 f p1))), (5, .int (nI p)), (6, .int (nI s3)), (7, .int (nI i))], [.ref m0, .ref m0], M1)) rfl rfl rfl ?_
          refine ps_st (S' := (40, [(8, .int (nI (by4 f (p + 2)))), (0, .ref m0), (2, .int 2), (3, .int (nI x)), (4, .int (nI (by2 f p1))), (5, .int (nI p)), (6, .int (nI s3)), (7, .int (nI i))], [.int (nI p), .ref m0, .ref m0], M1)) rfl rfl rfl ?_
          refine pl_call (a := [.ref m0, .int (nI p)]) (rest := [.ref m0]) rfl rfl rfl (rd_u2 (n := n) (f := f) (p := p) hR1 hF1 (by omega)) (fun v4 M5 q6 => ?_)
          obtain ⟨rfl, rfl⟩ := q6
          show pl _ _ _ (43, [(8, .int (nI (by4 f (p + 2)))), (0, .ref m0), (2, .int 2), (3, .int (nI x)), (4, .int (nI (by2 f p1))), (5, .int (nI p)), (6, .int (nI s3)), (7, .int (nI i))], [.int (nI (by2 f p)), .ref m0], M1) _
          have hu_40 := by2_lt f p
          refine pl_call (a := [.ref m0, .int (nI (by2 f p))]) (rest := []) rfl rfl rfl (rd_tag (n := n) (f := f) (tx := tx) (cN := cN) (A := A) (N := N) (mj := mj) (E := E) (k := (by2 f p)) hR1 hl51 hl52 hl53 hF1 hY1 hP1 (hEP) (hN) (hmj) (by2_lt _ _)) (fun v7 M8 q9 => ?_)
          obtain ⟨rfl, rfl⟩ := q9
          show pl _ _ _ (46, [(8, .int (nI (by4 f (p + 2)))), (0, .ref m0), (2, .int 2), (3, .int (nI x)), (4, .int (nI (by2 f p1))), (5, .int (nI p)), (6, .int (nI s3)), (7, .int (nI i))], [.int (nI (tg f E (by2 f p)))], M1) _
          have htg_43 := tg_lt f E (by2 f p)
          refine ps_st (S' := (47, [(8, .int (nI (by4 f (p + 2)))), (0, .ref m0), (2, .int 2), (3, .int (nI x)), (4, .int (nI (by2 f p1))), (5, .int (nI p)), (6, .int (nI s3)), (7, .int (nI i))], [.int 1, .int (nI (tg f E (by2 f p)))], M1)) rfl rfl rfl ?_
          refine ps_if2 (S1 := (61, [(8, .int (nI (by4 f (p + 2)))), (0, .ref m0), (2, .int 2), (3, .int (nI x)), (4, .int (nI (by2 f p1))), (5, .int (nI p)), (6, .int (nI s3)), (7, .int (nI i))], [], M1)) (S2 := (50, [(8, .int (nI (by4 f (p + 2)))), (0, .ref m0), (2, .int 2), (3, .int (nI x)), (4, .int (nI (by2 f p1))), (5, .int (nI p)), (6, .int (nI s3)), (7, .int (nI i))], [], M1)) rfl rfl rfl (fun c_47 => ?_) (fun c_47 => ?_)
          · have c_47 : (nI (tg f E (by2 f p))) = 1 := of_decide_eq_true c_47
            have n_47 : tg f E (by2 f p) = 1 := (eq_nI (p := tg f E (by2 f p)) (n := 1) (Nat.lt_trans (tg_lt _ _ _) (by decide)) (by decide)).mp c_47
            refine ps_st (S' := (62, [(8, .int (nI (by4 f (p + 2)))), (0, .ref m0), (2, .int 2), (3, .int (nI x)), (4, .int (nI (by2 f p1))), (5, .int (nI p)), (6, .int (nI s3)), (7, .int (nI i))], [.ref m0], M1)) rfl rfl rfl ?_
            refine ps_st (S' := (63, [(8, .int (nI (by4 f (p + 2)))), (0, .ref m0), (2, .int 2), (3, .int (nI x)), (4, .int (nI (by2 f p1))), (5, .int (nI p)), (6, .int (nI s3)), (7, .int (nI i))], [.ref m0, .ref m0], M1)) rfl rfl rfl ?_
            refine ps_st (S' := (65, [(8, .int (nI (by4 f (p + 2)))), (0, .ref m0), (2, .int 2), (3, .int (nI x)), (4, .int (nI (by2 f p1))), (5, .int (nI p)), (6, .int (nI s3)), (7, .int (nI i))], [.int (nI p), .ref m0, .ref m0], M1)) rfl rfl rfl ?_
            refine pl_call (a := [.ref m0, .int (nI p)]) (rest := [.ref m0]) rfl rfl rfl (rd_u2 (n := n) (f := f) (p := p) hR1 hF1 (by omega)) (fun v10 M11 q12 => ?_)
            obtain ⟨rfl, rfl⟩ := q12
            show pl _ _ _ (68, [(8, .int (nI (by4 f (p + 2)))), (0, .ref m0), (2, .int 2), (3, .int (nI x)), (4, .int (nI (by2 f p1))), (5, .int (nI p)), (6, .int (nI s3)), (7, .int (nI i))], [.int (nI (by2 f p)), .ref m0], M1) _
            have hu_65 := by2_lt f p
            refine pl_call (a := [.ref m0, .int (nI (by2 f p))]) (rest := []) rfl rfl rfl (rd_symOf (n := n) (f := f) (tx := tx) (cN := cN) (A := A) (N := N) (mj := mj) (E := E) (k := (by2 f p)) hR1 hl51 hl52 hl53 hF1 hY1 hP1 (hEP) (hN) (hmj) (by omega)) (fun v13 M14 q15 => ?_)
            obtain ⟨s16, q68_s, rfl, rfl⟩ := q15
            show pl _ _ _ (71, [(8, .int (nI (by4 f (p + 2)))), (0, .ref m0), (2, .int 2), (3, .int (nI x)), (4, .int (nI (by2 f p1))), (5, .int (nI p)), (6, .int (nI s3)), (7, .int (nI i))], [.int (nI s16)], M1) _
            have hsl_68 := q68_s.1
            have htl_68 := hY1.1.2.2.1
            refine ps_st (S' := (73, [(9, .int (nI s16)), (8, .int (nI (by4 f (p + 2)))), (0, .ref m0), (2, .int 2), (3, .int (nI x)), (4, .int (nI (by2 f p1))), (5, .int (nI p)), (6, .int (nI s3)), (7, .int (nI i))], [], M1)) rfl rfl rfl ?_
            refine ps_st (S' := (74, [(9, .int (nI s16)), (8, .int (nI (by4 f (p + 2)))), (0, .ref m0), (2, .int 2), (3, .int (nI x)), (4, .int (nI (by2 f p1))), (5, .int (nI p)), (6, .int (nI s3)), (7, .int (nI i))], [.int (-1)], M1)) rfl rfl rfl ?_
            refine ps_st (S' := (76, [(10, .int (-1)), (9, .int (nI s16)), (8, .int (nI (by4 f (p + 2)))), (0, .ref m0), (2, .int 2), (3, .int (nI x)), (4, .int (nI (by2 f p1))), (5, .int (nI p)), (6, .int (nI s3)), (7, .int (nI i))], [], M1)) rfl rfl rfl ?_
            refine ps_st (S' := (77, [(10, .int (-1)), (9, .int (nI s16)), (8, .int (nI (by4 f (p + 2)))), (0, .ref m0), (2, .int 2), (3, .int (nI x)), (4, .int (nI (by2 f p1))), (5, .int (nI p)), (6, .int (nI s3)), (7, .int (nI i))], [.int 0], M1)) rfl rfl rfl ?_
            refine ps_st (S' := (79, [(0, .ref m0), (2, .int 2), (3, .int (nI x)), (4, .int (nI (by2 f p1))), (5, .int (nI p)), (6, .int (nI s3)), (7, .int (nI i)), (8, .int (nI (by4 f (p + 2)))), (9, .int (nI s16)), (10, .int (-1)), (11, .int 0)], [], M1)) rfl rfl rfl ?_
            exact ih.2 (i) (p) (s2) (s3) (0) (s16) (h) (K) M1 I1 R1 hR1 hEI1 hER1 hl51 hl52 hl53 hF1 hY1 hP1 hK1 hX1 hC1 hW1 (by omega) (hl) (hb) (ha) (hs9) (hu) (hkn) (hpp) (by omega) (by omega) (q68_s)
          · have c_47 : ¬ ((nI (tg f E (by2 f p))) = 1) := of_decide_eq_false c_47
            have n_47 : ¬ (tg f E (by2 f p) = 1) := fun h9 => c_47 ((eq_nI (p := tg f E (by2 f p)) (n := 1) (Nat.lt_trans (tg_lt _ _ _) (by decide)) (by decide)).mpr h9)
            refine ps_st (S' := (51, [(8, .int (nI (by4 f (p + 2)))), (0, .ref m0), (2, .int 2), (3, .int (nI x)), (4, .int (nI (by2 f p1))), (5, .int (nI p)), (6, .int (nI s3)), (7, .int (nI i))], [.ref m0], M1)) rfl rfl rfl ?_
            refine ps_st (S' := (53, [(8, .int (nI (by4 f (p + 2)))), (0, .ref m0), (2, .int 2), (3, .int (nI x)), (4, .int (nI (by2 f p1))), (5, .int (nI p)), (6, .int (nI s3)), (7, .int (nI i))], [.int 28, .ref m0], M1)) rfl rfl rfl ?_
            refine ps_st (S' := (55, [(8, .int (nI (by4 f (p + 2)))), (0, .ref m0), (2, .int 2), (3, .int (nI x)), (4, .int (nI (by2 f p1))), (5, .int (nI p)), (6, .int (nI s3)), (7, .int (nI i))], [.int (nI p), .int 28, .ref m0], M1)) rfl rfl rfl ?_
            refine pl_call (a := [.ref m0, .int 28, .int (nI p)]) (rest := []) rfl rfl rfl (rd_wrong (x1 := 28) (x2 := (nI p)) hR1) (fun v17 M18 q19 => ?_)
            obtain ⟨I20, R21, rfl, hR22, hI23, hX24, hi25, hi26⟩ := q19
            have hi27 := (hI23 51 (by decide)).trans hl51
            have hi28 := (hI23 52 (by decide)).trans hl52
            have hi29 := (hI23 53 (by decide)).trans hl53
            have hF_30 := hF1.mono (cIx hI23 (by decide)) (cRx hX24 (by decide))
            have hY_31 := hY1.mono (cIx hI23 (by decide)) (cRx hX24 (by decide))
            have hP_32 := hP1.mono (cIx hI23 (by decide)) (cRx hX24 (by decide))
            have hK_33 := hK1.mono (cIx hI23 (by decide)) (cRx hX24 (by decide))
            have hX_34 := hX1.mono (cIx hI23 (by decide)) (cRx hX24 (by decide))
            have hC_35 := hC1.mono (cIx hI23 (by decide)) (cRx hX24 (by decide))
            have hW_36 := hW1.mono (cIx hI23 (by decide)) (cRx hX24 (by decide))
            have hEI37 := hEI1.tr hI23 (by decide)
            have hER38 := hER1.tr hX24 (by decide)
            show pl _ _ _ (58, [(8, .int (nI (by4 f (p + 2)))), (0, .ref m0), (2, .int 2), (3, .int (nI x)), (4, .int (nI (by2 f p1))), (5, .int (nI p)), (6, .int (nI s3)), (7, .int (nI i))], [.int 0], M18) _
            refine ps_st (S' := (59, [(8, .int (nI (by4 f (p + 2)))), (0, .ref m0), (2, .int 2), (3, .int (nI x)), (4, .int (nI (by2 f p1))), (5, .int (nI p)), (6, .int (nI s3)), (7, .int (nI i))], [], M18)) rfl rfl rfl ?_
            refine ps_st (S' := (60, [(8, .int (nI (by4 f (p + 2)))), (0, .ref m0), (2, .int 2), (3, .int (nI x)), (4, .int (nI (by2 f p1))), (5, .int (nI p)), (6, .int (nI s3)), (7, .int (nI i))], [.int (-1)], M18)) rfl rfl rfl ?_
            exact ps_ret rfl rfl (Or.inl ⟨(28, p), I20, R21, by
                rw [← hs9, maS_28 (i := i) (p := p) (s := s2) (by omega) (by omega)], rfl, hR22, hEI37, hER38, hi25, hi26⟩)
      · skip
        intro i p s2 s3 k t h K M1 I1 R1 hR1 hEI1 hER1 hl51 hl52 hl53 hF1 hY1 hP1 hK1 hX1 hC1 hW1 hi0 hl hb ha hs9 hu hkn hpp hk h1 hsy
        have hn := hF1.1
        have hu9 := by2_lt f p1
        have htl := hY1.1.2.2.1
        obtain ⟨hq5, hq6, hq7⟩ := s_atE_in (i := i) (p := p) ha hi0
        refine ps_st1 (S' := (81, [(0, .ref m0), (2, .int 2), (3, .int (nI x)), (4, .int (nI (by2 f p1))), (5, .int (nI p)), (6, .int (nI s3)), (7, .int (nI i)), (8, .int (nI (by4 f (p + 2)))), (9, .int (nI t)), (10, .int (gI (kb mj 2 (tX f n E (by2 f p)) k))), (11, .int (nI k))], [.int (nI k)], M1)) rfl rfl rfl ?_
        refine ps_st (S' := (82, [(0, .ref m0), (2, .int 2), (3, .int (nI x)), (4, .int (nI (by2 f p1))), (5, .int (nI p)), (6, .int (nI s3)), (7, .int (nI i)), (8, .int (nI (by4 f (p + 2)))), (9, .int (nI t)), (10, .int (gI (kb mj 2 (tX f n E (by2 f p)) k))), (11, .int (nI k))], [.ref m0, .int (nI k)], M1)) rfl rfl rfl ?_
        refine pr_ref (j := 62) (S' := (85, [(0, .ref m0), (2, .int 2), (3, .int (nI x)), (4, .int (nI (by2 f p1))), (5, .int (nI p)), (6, .int (nI s3)), (7, .int (nI i)), (8, .int (nI (by4 f (p + 2)))), (9, .int (nI t)), (10, .int (gI (kb mj 2 (tX f n E (by2 f p)) k))), (11, .int (nI k))], [.ref (q 62), .int (nI k)], M1)) rfl hR1 rfl rfl ?_
        refine pr_knl (S' := (86, [(0, .ref m0), (2, .int 2), (3, .int (nI x)), (4, .int (nI (by2 f p1))), (5, .int (nI p)), (6, .int (nI s3)), (7, .int (nI i)), (8, .int (nI (by4 f (p + 2)))), (9, .int (nI t)), (10, .int (gI (kb mj 2 (tX f n E (by2 f p)) k))), (11, .int (nI k))], [.int (nI 10), .int (nI k)], M1)) rfl hR1 rfl ?_
        refine ps_if2 (S1 := (140, [(0, .ref m0), (2, .int 2), (3, .int (nI x)), (4, .int (nI (by2 f p1))), (5, .int (nI p)), (6, .int (nI s3)), (7, .int (nI i)), (8, .int (nI (by4 f (p + 2)))), (9, .int (nI t)), (10, .int (gI (kb mj 2 (tX f n E (by2 f p)) k))), (11, .int (nI k))], [], M1)) (S2 := (89, [(0, .ref m0), (2, .int 2), (3, .int (nI x)), (4, .int (nI (by2 f p1))), (5, .int (nI p)), (6, .int (nI s3)), (7, .int (nI i)), (8, .int (nI (by4 f (p + 2)))), (9, .int (nI t)), (10, .int (gI (kb mj 2 (tX f n E (by2 f p)) k))), (11, .int (nI k))], [], M1)) rfl rfl rfl (fun c_86 => ?_) (fun c_86 => ?_)
        · have c_86 : (nI 10) ≤ (nI k) := of_decide_eq_true c_86
          have n_86 : 10 ≤ k := (le_nI (p := 10) (n := k) (by decide) (by omega)).mp c_86
          have ek : k = 10 := by omega
          refine ps_st (S' := (142, [(0, .ref m0), (2, .int 2), (3, .int (nI x)), (4, .int (nI (by2 f p1))), (5, .int (nI p)), (6, .int (nI s3)), (7, .int (nI i)), (8, .int (nI (by4 f (p + 2)))), (9, .int (nI t)), (10, .int (gI (kb mj 2 (tX f n E (by2 f p)) k))), (11, .int (nI k))], [.int (gI (kb mj 2 (tX f n E (by2 f p)) k))], M1)) rfl rfl rfl ?_
          refine ps_if (S1 := (268, [(0, .ref m0), (2, .int 2), (3, .int (nI x)), (4, .int (nI (by2 f p1))), (5, .int (nI p)), (6, .int (nI s3)), (7, .int (nI i)), (8, .int (nI (by4 f (p + 2))))], [], M1)) (S2 := (145, [(0, .ref m0), (2, .int 2), (3, .int (nI x)), (4, .int (nI (by2 f p1))), (5, .int (nI p)), (6, .int (nI s3)), (7, .int (nI i)), (8, .int (nI (by4 f (p + 2)))), (9, .int (nI t)), (10, .int (gI (kb mj 2 (tX f n E (by2 f p)) k))), (11, .int (nI k))], [], M1)) rfl rfl rfl (fun c_142 => ?_) (fun c_142 => ?_)
          · have c_142 : (gI (kb mj 2 (tX f n E (by2 f p)) k)) < 0 := of_decide_eq_true c_142
            rw [ek] at c_142
            have hsm := mk_n c_142
            refine ps_st (S' := (270, [(0, .ref m0), (2, .int 2), (3, .int (nI x)), (4, .int (nI (by2 f p1))), (5, .int (nI p)), (6, .int (nI s3)), (7, .int (nI i)), (8, .int (nI (by4 f (p + 2))))], [.int (nI p)], M1)) rfl rfl rfl ?_
            refine ps_st (S' := (272, [(0, .ref m0), (2, .int 2), (3, .int (nI x)), (4, .int (nI (by2 f p1))), (5, .int (nI p)), (6, .int (nI s3)), (7, .int (nI i)), (8, .int (nI (by4 f (p + 2))))], [.int 6, .int (nI p)], M1)) rfl rfl rfl ?_
            refine ps_st (S' := (274, [(0, .ref m0), (2, .int 2), (3, .int (nI x)), (4, .int (nI (by2 f p1))), (5, .int (nI p)), (6, .int (nI s3)), (7, .int (nI i)), (8, .int (nI (by4 f (p + 2))))], [.int (nI (by4 f (p + 2))), .int 6, .int (nI p)], M1)) rfl rfl rfl ?_
            refine ps_st (S' := (275, [(0, .ref m0), (2, .int 2), (3, .int (nI x)), (4, .int (nI (by2 f p1))), (5, .int (nI p)), (6, .int (nI s3)), (7, .int (nI i)), (8, .int (nI (by4 f (p + 2))))], [.int (6 + (nI (by4 f (p + 2)))), .int (nI p)], M1)) rfl rfl rfl ?_
            rw [nI_add2 (p := 6) (k := by4 f (p + 2)) (x := 6) (y := (nI (by4 f (p + 2)))) rfl rfl (by omega)]
            show pl _ _ _ (_, [(0, .ref m0), (2, .int 2), (3, .int (nI x)), (4, .int (nI (by2 f p1))), (5, .int (nI p)), (6, .int (nI s3)), (7, .int (nI i)), (8, .int (nI (by4 f (p + 2))))], [.int (nI (6 + by4 f (p + 2))), .int (nI p)], M1) _
            refine ps_st (S' := (276, [(0, .ref m0), (2, .int 2), (3, .int (nI x)), (4, .int (nI (by2 f p1))), (5, .int (nI p)), (6, .int (nI s3)), (7, .int (nI i)), (8, .int (nI (by4 f (p + 2))))], [.int ((nI p) + (nI (6 + by4 f (p + 2))))], M1)) rfl rfl rfl ?_
            rw [nI_add1 (p := p) (k := 6 + by4 f (p + 2)) (x := (nI (6 + by4 f (p + 2)))) rfl (by omega)]
            rw [show nI (p + (6 + by4 f (p + 2))) = nI (p + 6 + by4 f (p + 2)) from congrArg nI (by omega)]
            show pl _ _ _ (_, [(0, .ref m0), (2, .int 2), (3, .int (nI x)), (4, .int (nI (by2 f p1))), (5, .int (nI p)), (6, .int (nI s3)), (7, .int (nI i)), (8, .int (nI (by4 f (p + 2))))], [.int (nI (p + 6 + by4 f (p + 2)))], M1) _
            refine ps_st (S' := (278, [(5, .int (nI (p + 6 + by4 f (p + 2)))), (0, .ref m0), (2, .int 2), (3, .int (nI x)), (4, .int (nI (by2 f p1))), (6, .int (nI s3)), (7, .int (nI i)), (8, .int (nI (by4 f (p + 2))))], [], M1)) rfl rfl rfl ?_
            refine ps_st (S' := (281, [(7, .int ((nI i) + 1)), (5, .int (nI (p + 6 + by4 f (p + 2)))), (0, .ref m0), (2, .int 2), (3, .int (nI x)), (4, .int (nI (by2 f p1))), (6, .int (nI s3)), (8, .int (nI (by4 f (p + 2))))], [], M1)) rfl rfl rfl ?_
            rw [nI_add1 (p := i) (k := 1) (x := 1) rfl (by omega)]
            show pl _ _ _ (_, [(7, .int (nI (i + 1))), (5, .int (nI (p + 6 + by4 f (p + 2)))), (0, .ref m0), (2, .int 2), (3, .int (nI x)), (4, .int (nI (by2 f p1))), (6, .int (nI s3)), (8, .int (nI (by4 f (p + 2))))], [], M1) _
            refine ps_st (S' := (18, [(0, .ref m0), (2, .int 2), (3, .int (nI x)), (4, .int (nI (by2 f p1))), (5, .int (nI (p + 6 + by4 f (p + 2)))), (6, .int (nI s3)), (7, .int (nI (i + 1)))], [], M1)) rfl rfl rfl ?_
            exact ih.1 (i + 1) (p + 6 + by4 f (p + 2)) (s2) (s3) (h) (K) M1 I1 R1 hR1 hEI1 hER1 hl51 hl52 hl53 hF1 hY1 hP1 hK1 hX1 hC1 hW1 (by omega) (hl) (hb) (hq7) (by
                rw [← hs9, maS_u (i := i) (p := p) (s := s2) hi0 h1 hsm]) (by
                rw [← hu, maU_st (i := i) (p := p) hi0, hsm, stM_0]) (by omega) (by omega)
          · have c_142 : ¬ ((gI (kb mj 2 (tX f n E (by2 f p)) k)) < 0) := of_decide_eq_false c_142
            rw [ek] at c_142
            obtain ⟨w, hw1, hw2, hsm⟩ := mk_y c_142
            have hws : sb s3 w = sb s2 (w + 1) := by rcases hw2 with rfl | rfl; exact hb.1; exact hb.2.1
            have hb2 := sb_lt s3 w
            rw [show gI (kb mj 2 (tX f n E (by2 f p)) k) = nI w by rw [ek, hw1]; rfl]
            show pl _ _ _ (145, [(0, .ref m0), (2, .int 2), (3, .int (nI x)), (4, .int (nI (by2 f p1))), (5, .int (nI p)), (6, .int (nI s3)), (7, .int (nI i)), (8, .int (nI (by4 f (p + 2)))), (9, .int (nI t)), (10, .int (nI w)), (11, .int (nI k))], [], M1) _
            refine ps_st (S' := (146, [(0, .ref m0), (2, .int 2), (3, .int (nI x)), (4, .int (nI (by2 f p1))), (5, .int (nI p)), (6, .int (nI s3)), (7, .int (nI i)), (8, .int (nI (by4 f (p + 2)))), (9, .int (nI t)), (10, .int (nI w)), (11, .int (nI k))], [.int 2], M1)) rfl rfl rfl ?_
            refine ps_st (S' := (147, [(0, .ref m0), (2, .int 2), (3, .int (nI x)), (4, .int (nI (by2 f p1))), (5, .int (nI p)), (6, .int (nI s3)), (7, .int (nI i)), (8, .int (nI (by4 f (p + 2)))), (9, .int (nI t)), (10, .int (nI w)), (11, .int (nI k))], [.int 1, .int 2], M1)) rfl rfl rfl ?_
            refine ps_if2 (S1 := (160, [(0, .ref m0), (2, .int 2), (3, .int (nI x)), (4, .int (nI (by2 f p1))), (5, .int (nI p)), (6, .int (nI s3)), (7, .int (nI i)), (8, .int (nI (by4 f (p + 2)))), (10, .int (nI w))], [], M1)) (S2 := (150, [(0, .ref m0), (2, .int 2), (3, .int (nI x)), (4, .int (nI (by2 f p1))), (5, .int (nI p)), (6, .int (nI s3)), (7, .int (nI i)), (8, .int (nI (by4 f (p + 2)))), (9, .int (nI t)), (10, .int (nI w)), (11, .int (nI k))], [], M1)) rfl rfl rfl (fun c_147 => ?_) (fun c_147 => ?_)
            rotate_left
            · exact absurd (by decide) (of_decide_eq_false c_147)
            refine ps_st (S' := (161, [(0, .ref m0), (2, .int 2), (3, .int (nI x)), (4, .int (nI (by2 f p1))), (5, .int (nI p)), (6, .int (nI s3)), (7, .int (nI i)), (8, .int (nI (by4 f (p + 2)))), (10, .int (nI w))], [.int 2], M1)) rfl rfl rfl ?_
            refine ps_st (S' := (162, [(0, .ref m0), (2, .int 2), (3, .int (nI x)), (4, .int (nI (by2 f p1))), (5, .int (nI p)), (6, .int (nI s3)), (7, .int (nI i)), (8, .int (nI (by4 f (p + 2)))), (10, .int (nI w))], [.int 2, .int 2], M1)) rfl rfl rfl ?_
            refine ps_if2 (S1 := (175, [(0, .ref m0), (2, .int 2), (3, .int (nI x)), (4, .int (nI (by2 f p1))), (5, .int (nI p)), (6, .int (nI s3)), (7, .int (nI i)), (8, .int (nI (by4 f (p + 2)))), (10, .int (nI w))], [], M1)) (S2 := (165, [(0, .ref m0), (2, .int 2), (3, .int (nI x)), (4, .int (nI (by2 f p1))), (5, .int (nI p)), (6, .int (nI s3)), (7, .int (nI i)), (8, .int (nI (by4 f (p + 2)))), (10, .int (nI w))], [], M1)) rfl rfl rfl (fun c_162 => ?_) (fun c_162 => ?_)
            · exact absurd (of_decide_eq_true c_162) (by decide)
            refine ps_st (S' := (166, [(0, .ref m0), (2, .int 2), (3, .int (nI x)), (4, .int (nI (by2 f p1))), (5, .int (nI p)), (6, .int (nI s3)), (7, .int (nI i)), (8, .int (nI (by4 f (p + 2)))), (10, .int (nI w))], [.ref m0], M1)) rfl rfl rfl ?_
            refine pr_ref (j := 43) (S' := (169, [(0, .ref m0), (2, .int 2), (3, .int (nI x)), (4, .int (nI (by2 f p1))), (5, .int (nI p)), (6, .int (nI s3)), (7, .int (nI i)), (8, .int (nI (by4 f (p + 2)))), (10, .int (nI w))], [.ref (q 43)], M1)) rfl hR1 rfl rfl ?_
            refine ps_st (S' := (170, [(0, .ref m0), (2, .int 2), (3, .int (nI x)), (4, .int (nI (by2 f p1))), (5, .int (nI p)), (6, .int (nI s3)), (7, .int (nI i)), (8, .int (nI (by4 f (p + 2)))), (10, .int (nI w))], [.int (nI x), .ref (q 43)], M1)) rfl rfl rfl ?_
            refine ps_st (S' := (171, [(0, .ref m0), (2, .int 2), (3, .int (nI x)), (4, .int (nI (by2 f p1))), (5, .int (nI p)), (6, .int (nI s3)), (7, .int (nI i)), (8, .int (nI (by4 f (p + 2)))), (10, .int (nI w))], [.int (nI x), .ref (q 43), .int (nI x), .ref (q 43)], M1)) rfl rfl rfl ?_
            refine pr_ld (a := 43) (j := x) (y := (nI K.1)) (S' := (172, [(0, .ref m0), (2, .int 2), (3, .int (nI x)), (4, .int (nI (by2 f p1))), (5, .int (nI p)), (6, .int (nI s3)), (7, .int (nI i)), (8, .int (nI (by4 f (p + 2)))), (10, .int (nI w))], [.int (nI K.1), .int (nI x), .ref (q 43)], M1)) rfl hR1 rfl (by omega) (fun _ => hW1.1.2.1) rfl (fun i1_171 => ?_)
            refine ps_st (S' := (173, [(0, .ref m0), (2, .int 2), (3, .int (nI x)), (4, .int (nI (by2 f p1))), (5, .int (nI p)), (6, .int (nI s3)), (7, .int (nI i)), (8, .int (nI (by4 f (p + 2)))), (10, .int (nI w))], [.int 1, .int (nI K.1), .int (nI x), .ref (q 43)], M1)) rfl rfl rfl ?_
            refine ps_st (S' := (174, [(0, .ref m0), (2, .int 2), (3, .int (nI x)), (4, .int (nI (by2 f p1))), (5, .int (nI p)), (6, .int (nI s3)), (7, .int (nI i)), (8, .int (nI (by4 f (p + 2)))), (10, .int (nI w))], [.int ((nI K.1) + 1), .int (nI x), .ref (q 43)], M1)) rfl rfl rfl ?_
            rw [nI_add1 (p := K.1) (k := 1) (x := 1) rfl (by omega)]
            show pl _ _ _ (_, [(0, .ref m0), (2, .int 2), (3, .int (nI x)), (4, .int (nI (by2 f p1))), (5, .int (nI p)), (6, .int (nI s3)), (7, .int (nI i)), (8, .int (nI (by4 f (p + 2)))), (10, .int (nI w))], [.int (nI (K.1 + 1)), .int (nI x), .ref (q 43)], M1) _
            refine pr_st (a := 43) (j := x) rfl hR1 rfl (by omega) (fun M39 R40 i1_174 hR41 hS42 => ?_)
            have hF_43 := hF1.mono (fun _ _ => rfl) (rRx hS42 (by decide))
            have hY_44 := hY1.mono (fun _ _ => rfl) (rRx hS42 (by decide))
            have hP_45 := hP1.mono (fun _ _ => rfl) (rRx hS42 (by decide))
            have hK_46 := hK1.mono (fun _ _ => rfl) (rRx hS42 (by decide))
            have hX_47 := hX1.mono (fun _ _ => rfl) (rRx hS42 (by decide))
            have hC_48 := hC1.mono (fun _ _ => rfl) (rRx hS42 (by decide))
            have hER49 := hER1.st hS42 (by decide)
            show pl _ _ _ (175, [(0, .ref m0), (2, .int 2), (3, .int (nI x)), (4, .int (nI (by2 f p1))), (5, .int (nI p)), (6, .int (nI s3)), (7, .int (nI i)), (8, .int (nI (by4 f (p + 2)))), (10, .int (nI w))], [], M39) _
            have hW_50 := MW.s43 (I' := I1) hW1 hS42
            refine ps_st (S' := (176, [(0, .ref m0), (2, .int 2), (3, .int (nI x)), (4, .int (nI (by2 f p1))), (5, .int (nI p)), (6, .int (nI s3)), (7, .int (nI i)), (8, .int (nI (by4 f (p + 2)))), (10, .int (nI w))], [.int 2], M39)) rfl rfl rfl ?_
            refine ps_st (S' := (177, [(0, .ref m0), (2, .int 2), (3, .int (nI x)), (4, .int (nI (by2 f p1))), (5, .int (nI p)), (6, .int (nI s3)), (7, .int (nI i)), (8, .int (nI (by4 f (p + 2)))), (10, .int (nI w))], [.int 4, .int 2], M39)) rfl rfl rfl ?_
            refine ps_if2 (S1 := (190, [(0, .ref m0), (2, .int 2), (3, .int (nI x)), (4, .int (nI (by2 f p1))), (5, .int (nI p)), (6, .int (nI s3)), (7, .int (nI i)), (8, .int (nI (by4 f (p + 2)))), (10, .int (nI w))], [], M39)) (S2 := (180, [(0, .ref m0), (2, .int 2), (3, .int (nI x)), (4, .int (nI (by2 f p1))), (5, .int (nI p)), (6, .int (nI s3)), (7, .int (nI i)), (8, .int (nI (by4 f (p + 2)))), (10, .int (nI w))], [], M39)) rfl rfl rfl (fun c_177 => ?_) (fun c_177 => ?_)
            rotate_left
            · exact absurd (by decide) (of_decide_eq_false c_177)
            refine ps_st (S' := (192, [(0, .ref m0), (2, .int 2), (3, .int (nI x)), (4, .int (nI (by2 f p1))), (5, .int (nI p)), (6, .int (nI s3)), (7, .int (nI i)), (8, .int (nI (by4 f (p + 2)))), (10, .int (nI w))], [.int (nI s3)], M39)) rfl rfl rfl ?_
            refine ps_st (S' := (194, [(0, .ref m0), (2, .int 2), (3, .int (nI x)), (4, .int (nI (by2 f p1))), (5, .int (nI p)), (6, .int (nI s3)), (7, .int (nI i)), (8, .int (nI (by4 f (p + 2)))), (10, .int (nI w))], [.int (nI w), .int (nI s3)], M39)) rfl rfl rfl ?_
            refine ps_st (S' := (195, [(0, .ref m0), (2, .int 2), (3, .int (nI x)), (4, .int (nI (by2 f p1))), (5, .int (nI p)), (6, .int (nI s3)), (7, .int (nI i)), (8, .int (nI (by4 f (p + 2)))), (10, .int (nI w))], [.int ((nI s3) >>> ((nI w) &&& 31))], M39)) rfl rfl rfl ?_
            refine ps_st (S' := (196, [(0, .ref m0), (2, .int 2), (3, .int (nI x)), (4, .int (nI (by2 f p1))), (5, .int (nI p)), (6, .int (nI s3)), (7, .int (nI i)), (8, .int (nI (by4 f (p + 2)))), (10, .int (nI w))], [.int 1, .int ((nI s3) >>> ((nI w) &&& 31))], M39)) rfl rfl rfl ?_
            refine ps_st (S' := (197, [(0, .ref m0), (2, .int 2), (3, .int (nI x)), (4, .int (nI (by2 f p1))), (5, .int (nI p)), (6, .int (nI s3)), (7, .int (nI i)), (8, .int (nI (by4 f (p + 2)))), (10, .int (nI w))], [.int (((nI s3) >>> ((nI w) &&& 31)) &&& 1)], M39)) rfl rfl rfl ?_
            rw [shr_k s3 (by omega) w (by omega)]
            show pl _ _ _ (_, [(0, .ref m0), (2, .int 2), (3, .int (nI x)), (4, .int (nI (by2 f p1))), (5, .int (nI p)), (6, .int (nI s3)), (7, .int (nI i)), (8, .int (nI (by4 f (p + 2)))), (10, .int (nI w))], [.int (nI (sb s3 w))], M39) _
            refine ps_st (S' := (198, [(0, .ref m0), (2, .int 2), (3, .int (nI x)), (4, .int (nI (by2 f p1))), (5, .int (nI p)), (6, .int (nI s3)), (7, .int (nI i)), (8, .int (nI (by4 f (p + 2)))), (10, .int (nI w))], [.int 1, .int (nI (sb s3 w))], M39)) rfl rfl rfl ?_
            refine ps_if2 (S1 := (212, [(0, .ref m0), (2, .int 2), (3, .int (nI x)), (4, .int (nI (by2 f p1))), (5, .int (nI p)), (6, .int (nI s3)), (7, .int (nI i)), (8, .int (nI (by4 f (p + 2)))), (10, .int (nI w))], [], M39)) (S2 := (201, [(0, .ref m0), (2, .int 2), (3, .int (nI x)), (4, .int (nI (by2 f p1))), (5, .int (nI p)), (6, .int (nI s3)), (7, .int (nI i)), (8, .int (nI (by4 f (p + 2)))), (10, .int (nI w))], [], M39)) rfl rfl rfl (fun c_198 => ?_) (fun c_198 => ?_)
            · have c_198 : ¬ (nI (sb s3 w)) = 1 := of_decide_eq_true c_198
              have n_198 : ¬ (sb s3 w = 1) := fun h9 => c_198 ((eq_nI (p := sb s3 w) (n := 1) (Nat.lt_trans (sb_lt _ _) (by decide)) (by decide)).mpr h9)
              refine ps_st (S' := (213, [(0, .ref m0), (2, .int 2), (3, .int (nI x)), (4, .int (nI (by2 f p1))), (5, .int (nI p)), (6, .int (nI s3)), (7, .int (nI i)), (8, .int (nI (by4 f (p + 2)))), (10, .int (nI w))], [.ref m0], M39)) rfl rfl rfl ?_
              refine ps_st (S' := (215, [(0, .ref m0), (2, .int 2), (3, .int (nI x)), (4, .int (nI (by2 f p1))), (5, .int (nI p)), (6, .int (nI s3)), (7, .int (nI i)), (8, .int (nI (by4 f (p + 2)))), (10, .int (nI w))], [.int (nI w), .ref m0], M39)) rfl rfl rfl ?_
              refine ps_st (S' := (217, [(0, .ref m0), (2, .int 2), (3, .int (nI x)), (4, .int (nI (by2 f p1))), (5, .int (nI p)), (6, .int (nI s3)), (7, .int (nI i)), (8, .int (nI (by4 f (p + 2)))), (10, .int (nI w))], [.int (nI p), .int (nI w), .ref m0], M39)) rfl rfl rfl ?_
              refine ps_st (S' := (219, [(0, .ref m0), (2, .int 2), (3, .int (nI x)), (4, .int (nI (by2 f p1))), (5, .int (nI p)), (6, .int (nI s3)), (7, .int (nI i)), (8, .int (nI (by4 f (p + 2)))), (10, .int (nI w))], [.int (nI p), .int (nI p), .int (nI w), .ref m0], M39)) rfl rfl rfl ?_
              refine ps_st (S' := (221, [(0, .ref m0), (2, .int 2), (3, .int (nI x)), (4, .int (nI (by2 f p1))), (5, .int (nI p)), (6, .int (nI s3)), (7, .int (nI i)), (8, .int (nI (by4 f (p + 2)))), (10, .int (nI w))], [.int 6, .int (nI p), .int (nI p), .int (nI w), .ref m0], M39)) rfl rfl rfl ?_
              refine ps_st (S' := (222, [(0, .ref m0), (2, .int 2), (3, .int (nI x)), (4, .int (nI (by2 f p1))), (5, .int (nI p)), (6, .int (nI s3)), (7, .int (nI i)), (8, .int (nI (by4 f (p + 2)))), (10, .int (nI w))], [.int ((nI p) + 6), .int (nI p), .int (nI w), .ref m0], M39)) rfl rfl rfl ?_
              rw [nI_add1 (p := p) (k := 6) (x := 6) rfl (by omega)]
              show pl _ _ _ (_, [(0, .ref m0), (2, .int 2), (3, .int (nI x)), (4, .int (nI (by2 f p1))), (5, .int (nI p)), (6, .int (nI s3)), (7, .int (nI i)), (8, .int (nI (by4 f (p + 2)))), (10, .int (nI w))], [.int (nI (p + 6)), .int (nI p), .int (nI w), .ref m0], M39) _
              refine ps_st (S' := (224, [(0, .ref m0), (2, .int 2), (3, .int (nI x)), (4, .int (nI (by2 f p1))), (5, .int (nI p)), (6, .int (nI s3)), (7, .int (nI i)), (8, .int (nI (by4 f (p + 2)))), (10, .int (nI w))], [.int (nI p), .int (nI (p + 6)), .int (nI p), .int (nI w), .ref m0], M39)) rfl rfl rfl ?_
              refine ps_st (S' := (226, [(0, .ref m0), (2, .int 2), (3, .int (nI x)), (4, .int (nI (by2 f p1))), (5, .int (nI p)), (6, .int (nI s3)), (7, .int (nI i)), (8, .int (nI (by4 f (p + 2)))), (10, .int (nI w))], [.int 6, .int (nI p), .int (nI (p + 6)), .int (nI p), .int (nI w), .ref m0], M39)) rfl rfl rfl ?_
              refine ps_st (S' := (227, [(0, .ref m0), (2, .int 2), (3, .int (nI x)), (4, .int (nI (by2 f p1))), (5, .int (nI p)), (6, .int (nI s3)), (7, .int (nI i)), (8, .int (nI (by4 f (p + 2)))), (10, .int (nI w))], [.int ((nI p) + 6), .int (nI (p + 6)), .int (nI p), .int (nI w), .ref m0], M39)) rfl rfl rfl ?_
              rw [nI_add1 (p := p) (k := 6) (x := 6) rfl (by omega)]
              show pl _ _ _ (_, [(0, .ref m0), (2, .int 2), (3, .int (nI x)), (4, .int (nI (by2 f p1))), (5, .int (nI p)), (6, .int (nI s3)), (7, .int (nI i)), (8, .int (nI (by4 f (p + 2)))), (10, .int (nI w))], [.int (nI (p + 6)), .int (nI (p + 6)), .int (nI p), .int (nI w), .ref m0], M39) _
              refine ps_st (S' := (229, [(0, .ref m0), (2, .int 2), (3, .int (nI x)), (4, .int (nI (by2 f p1))), (5, .int (nI p)), (6, .int (nI s3)), (7, .int (nI i)), (8, .int (nI (by4 f (p + 2)))), (10, .int (nI w))], [.int (nI (by4 f (p + 2))), .int (nI (p + 6)), .int (nI (p + 6)), .int (nI p), .int (nI w), .ref m0], M39)) rfl rfl rfl ?_
              refine ps_st (S' := (230, [(0, .ref m0), (2, .int 2), (3, .int (nI x)), (4, .int (nI (by2 f p1))), (5, .int (nI p)), (6, .int (nI s3)), (7, .int (nI i)), (8, .int (nI (by4 f (p + 2)))), (10, .int (nI w))], [.int ((nI (p + 6)) + (nI (by4 f (p + 2)))), .int (nI (p + 6)), .int (nI p), .int (nI w), .ref m0], M39)) rfl rfl rfl ?_
              rw [nI_add1 (p := p + 6) (k := by4 f (p + 2)) (x := (nI (by4 f (p + 2)))) rfl (by omega)]
              show pl _ _ _ (_, [(0, .ref m0), (2, .int 2), (3, .int (nI x)), (4, .int (nI (by2 f p1))), (5, .int (nI p)), (6, .int (nI s3)), (7, .int (nI i)), (8, .int (nI (by4 f (p + 2)))), (10, .int (nI w))], [.int (nI (p + 6 + by4 f (p + 2))), .int (nI (p + 6)), .int (nI p), .int (nI w), .ref m0], M39) _
              refine ps_st (S' := (231, [(0, .ref m0), (2, .int 2), (3, .int (nI x)), (4, .int (nI (by2 f p1))), (5, .int (nI p)), (6, .int (nI s3)), (7, .int (nI i)), (8, .int (nI (by4 f (p + 2)))), (10, .int (nI w))], [.int (nI x), .int (nI (p + 6 + by4 f (p + 2))), .int (nI (p + 6)), .int (nI p), .int (nI w), .ref m0], M39)) rfl rfl rfl ?_
              refine ps_st (S' := (233, [(0, .ref m0), (2, .int 2), (3, .int (nI x)), (4, .int (nI (by2 f p1))), (5, .int (nI p)), (6, .int (nI s3)), (7, .int (nI i)), (8, .int (nI (by4 f (p + 2)))), (10, .int (nI w))], [.int (nI s3), .int (nI x), .int (nI (p + 6 + by4 f (p + 2))), .int (nI (p + 6)), .int (nI p), .int (nI w), .ref m0], M39)) rfl rfl rfl ?_
              have hs0 : sb s2 (w + 1) = 0 := by omega
              refine pl_call (a := [.ref m0, .int (nI w), .int (nI p), .int (nI (p + 6)), .int (nI (p + 6 + by4 f (p + 2))), .int (nI x), .int (nI s3)]) (rest := []) rfl rfl rfl (rd_attrM7 (n := n) (f := f) (tx := tx) (cN := cN) (A := A) (N := N) (mj := mj) (E := E) (p := p) (e := (p + 6 + by4 f (p + 2))) (x := x) (s3 := s3) (w := w) (fl := fl) (ds := ds) (wa := wa) (h := h) (l := l) (t := (nI p)) (K := (K.1 + 1, K.2)) (R0 := R0) hR41 hl51 hl52 hl53 hF_43 hY_44 hP_45 hK_46 hX_47 hC_48 hW_50 (hEP) (hN) (hmj) (⟨by omega, by omega⟩) (hl) (hx) (hdt) (hmt) (hf6) (hwa) (hw2) (by omega)) (fun v51 M52 q53 => ?_)
              rcases q53 with q53 | q53 | q53 | q53
              · skip
                obtain ⟨I54, R55, q233_s, rfl, hR56, hI57, hX58⟩ := q53
                have hi59 := (hI57 51 (by decide)).trans hl51
                have hi60 := (hI57 52 (by decide)).trans hl52
                have hi61 := (hI57 53 (by decide)).trans hl53
                have hF_62 := hF_43.mono (cIx hI57 (by decide)) (cRx hX58 (by decide))
                have hY_63 := hY_44.mono (cIx hI57 (by decide)) (cRx hX58 (by decide))
                have hP_64 := hP_45.mono (cIx hI57 (by decide)) (cRx hX58 (by decide))
                have hK_65 := hK_46.mono (cIx hI57 (by decide)) (cRx hX58 (by decide))
                have hX_66 := hX_47.mono (cIx hI57 (by decide)) (cRx hX58 (by decide))
                have hEI67 := hEI1.tr hI57 (by decide)
                have hER68 := hER49.tr hX58 (by decide)
                show pl _ _ _ (236, [(0, .ref m0), (2, .int 2), (3, .int (nI x)), (4, .int (nI (by2 f p1))), (5, .int (nI p)), (6, .int (nI s3)), (7, .int (nI i)), (8, .int (nI (by4 f (p + 2)))), (10, .int (nI w))], [.int 30], M52) _
                refine ps_st (S' := (238, [(11, .int 30), (0, .ref m0), (2, .int 2), (3, .int (nI x)), (4, .int (nI (by2 f p1))), (5, .int (nI p)), (6, .int (nI s3)), (7, .int (nI i)), (8, .int (nI (by4 f (p + 2)))), (10, .int (nI w))], [], M52)) rfl rfl rfl ?_
                refine ps_st (S' := (240, [(11, .int 30), (0, .ref m0), (2, .int 2), (3, .int (nI x)), (4, .int (nI (by2 f p1))), (5, .int (nI p)), (6, .int (nI s3)), (7, .int (nI i)), (8, .int (nI (by4 f (p + 2)))), (10, .int (nI w))], [.int (nI s3)], M52)) rfl rfl rfl ?_
                refine ps_st (S' := (241, [(11, .int 30), (0, .ref m0), (2, .int 2), (3, .int (nI x)), (4, .int (nI (by2 f p1))), (5, .int (nI p)), (6, .int (nI s3)), (7, .int (nI i)), (8, .int (nI (by4 f (p + 2)))), (10, .int (nI w))], [.int 1, .int (nI s3)], M52)) rfl rfl rfl ?_
                refine ps_st (S' := (243, [(11, .int 30), (0, .ref m0), (2, .int 2), (3, .int (nI x)), (4, .int (nI (by2 f p1))), (5, .int (nI p)), (6, .int (nI s3)), (7, .int (nI i)), (8, .int (nI (by4 f (p + 2)))), (10, .int (nI w))], [.int (nI w), .int 1, .int (nI s3)], M52)) rfl rfl rfl ?_
                refine ps_st (S' := (244, [(11, .int 30), (0, .ref m0), (2, .int 2), (3, .int (nI x)), (4, .int (nI (by2 f p1))), (5, .int (nI p)), (6, .int (nI s3)), (7, .int (nI i)), (8, .int (nI (by4 f (p + 2)))), (10, .int (nI w))], [.int (1 <<< ((nI w) &&& 31)), .int (nI s3)], M52)) rfl rfl rfl ?_
                refine ps_st (S' := (245, [(11, .int 30), (0, .ref m0), (2, .int 2), (3, .int (nI x)), (4, .int (nI (by2 f p1))), (5, .int (nI p)), (6, .int (nI s3)), (7, .int (nI i)), (8, .int (nI (by4 f (p + 2)))), (10, .int (nI w))], [.int ((nI s3) ||| (1 <<< ((nI w) &&& 31)))], M52)) rfl rfl rfl ?_
                rw [or_k s3 w (by omega)]
                show pl _ _ _ (_, [(11, .int 30), (0, .ref m0), (2, .int 2), (3, .int (nI x)), (4, .int (nI (by2 f p1))), (5, .int (nI p)), (6, .int (nI s3)), (7, .int (nI i)), (8, .int (nI (by4 f (p + 2)))), (10, .int (nI w))], [.int (nI (so s3 w))], M52) _
                refine ps_st (S' := (247, [(6, .int (nI (so s3 w))), (11, .int 30), (0, .ref m0), (2, .int 2), (3, .int (nI x)), (4, .int (nI (by2 f p1))), (5, .int (nI p)), (7, .int (nI i)), (8, .int (nI (by4 f (p + 2)))), (10, .int (nI w))], [], M52)) rfl rfl rfl ?_
                refine ps_st (S' := (249, [(6, .int (nI (so s3 w))), (11, .int 30), (0, .ref m0), (2, .int 2), (3, .int (nI x)), (4, .int (nI (by2 f p1))), (5, .int (nI p)), (7, .int (nI i)), (8, .int (nI (by4 f (p + 2)))), (10, .int (nI w))], [.int 30], M52)) rfl rfl rfl ?_
                refine ps_if (S1 := (261, [(0, .ref m0), (2, .int 2), (3, .int (nI x)), (4, .int (nI (by2 f p1))), (5, .int (nI p)), (6, .int (nI (so s3 w))), (7, .int (nI i)), (8, .int (nI (by4 f (p + 2)))), (11, .int 30)], [], M52)) (S2 := (252, [(6, .int (nI (so s3 w))), (11, .int 30), (0, .ref m0), (2, .int 2), (3, .int (nI x)), (4, .int (nI (by2 f p1))), (5, .int (nI p)), (7, .int (nI i)), (8, .int (nI (by4 f (p + 2)))), (10, .int (nI w))], [], M52)) rfl rfl rfl (fun c_249 => ?_) (fun c_249 => ?_)
                · exact absurd (of_decide_eq_true c_249) (by decide)
                refine ps_st (S' := (253, [(6, .int (nI (so s3 w))), (11, .int 30), (0, .ref m0), (2, .int 2), (3, .int (nI x)), (4, .int (nI (by2 f p1))), (5, .int (nI p)), (7, .int (nI i)), (8, .int (nI (by4 f (p + 2)))), (10, .int (nI w))], [.ref m0], M52)) rfl rfl rfl ?_
                refine ps_st (S' := (255, [(6, .int (nI (so s3 w))), (11, .int 30), (0, .ref m0), (2, .int 2), (3, .int (nI x)), (4, .int (nI (by2 f p1))), (5, .int (nI p)), (7, .int (nI i)), (8, .int (nI (by4 f (p + 2)))), (10, .int (nI w))], [.int 30, .ref m0], M52)) rfl rfl rfl ?_
                refine ps_st (S' := (257, [(6, .int (nI (so s3 w))), (11, .int 30), (0, .ref m0), (2, .int 2), (3, .int (nI x)), (4, .int (nI (by2 f p1))), (5, .int (nI p)), (7, .int (nI i)), (8, .int (nI (by4 f (p + 2)))), (10, .int (nI w))], [.int (nI p), .int 30, .ref m0], M52)) rfl rfl rfl ?_
                refine pl_call (a := [.ref m0, .int 30, .int (nI p)]) (rest := []) rfl rfl rfl (rd_wrong (x1 := 30) (x2 := (nI p)) hR56) (fun v69 M70 q71 => ?_)
                obtain ⟨I72, R73, rfl, hR74, hI75, hX76, hi77, hi78⟩ := q71
                have hi79 := (hI75 51 (by decide)).trans hi59
                have hi80 := (hI75 52 (by decide)).trans hi60
                have hi81 := (hI75 53 (by decide)).trans hi61
                have hF_82 := hF_62.mono (cIx hI75 (by decide)) (cRx hX76 (by decide))
                have hY_83 := hY_63.mono (cIx hI75 (by decide)) (cRx hX76 (by decide))
                have hP_84 := hP_64.mono (cIx hI75 (by decide)) (cRx hX76 (by decide))
                have hK_85 := hK_65.mono (cIx hI75 (by decide)) (cRx hX76 (by decide))
                have hX_86 := hX_66.mono (cIx hI75 (by decide)) (cRx hX76 (by decide))
                have hEI87 := hEI67.tr hI75 (by decide)
                have hER88 := hER68.tr hX76 (by decide)
                show pl _ _ _ (260, [(6, .int (nI (so s3 w))), (11, .int 30), (0, .ref m0), (2, .int 2), (3, .int (nI x)), (4, .int (nI (by2 f p1))), (5, .int (nI p)), (7, .int (nI i)), (8, .int (nI (by4 f (p + 2)))), (10, .int (nI w))], [.int 0], M70) _
                refine ps_st (S' := (261, [(0, .ref m0), (2, .int 2), (3, .int (nI x)), (4, .int (nI (by2 f p1))), (5, .int (nI p)), (6, .int (nI (so s3 w))), (7, .int (nI i)), (8, .int (nI (by4 f (p + 2)))), (11, .int 30)], [], M70)) rfl rfl rfl ?_
                refine ps_st (S' := (263, [(0, .ref m0), (2, .int 2), (3, .int (nI x)), (4, .int (nI (by2 f p1))), (5, .int (nI p)), (6, .int (nI (so s3 w))), (7, .int (nI i)), (8, .int (nI (by4 f (p + 2)))), (11, .int 30)], [.int 30], M70)) rfl rfl rfl ?_
                refine ps_if (S1 := (268, [(0, .ref m0), (2, .int 2), (3, .int (nI x)), (4, .int (nI (by2 f p1))), (5, .int (nI p)), (6, .int (nI (so s3 w))), (7, .int (nI i)), (8, .int (nI (by4 f (p + 2))))], [], M70)) (S2 := (266, [(0, .ref m0), (2, .int 2), (3, .int (nI x)), (4, .int (nI (by2 f p1))), (5, .int (nI p)), (6, .int (nI (so s3 w))), (7, .int (nI i)), (8, .int (nI (by4 f (p + 2)))), (11, .int 30)], [], M70)) rfl rfl rfl (fun c_263 => ?_) (fun c_263 => ?_)
                · exact absurd (of_decide_eq_true c_263) (by decide)
                refine ps_st (S' := (267, [(0, .ref m0), (2, .int 2), (3, .int (nI x)), (4, .int (nI (by2 f p1))), (5, .int (nI p)), (6, .int (nI (so s3 w))), (7, .int (nI i)), (8, .int (nI (by4 f (p + 2)))), (11, .int 30)], [.int (-1)], M70)) rfl rfl rfl ?_
                exact ps_ret rfl rfl (Or.inl ⟨(30, p), I72, R73, by
                    rw [← hs9, maS_30 (i := i) (p := p) (s := s2) hi0 h1 hsm hs0 q233_s], rfl, hR74, hEI87, hER88, hi77, hi78⟩)
              · skip
                obtain ⟨r89, I90, R91, q233_s, q233_b, q233_l, rfl, hR92, hI93, hX94⟩ := q53
                have hi95 := (hI93 51 (by decide)).trans hl51
                have hi96 := (hI93 52 (by decide)).trans hl52
                have hi97 := (hI93 53 (by decide)).trans hl53
                have hF_98 := hF_43.mono (cIx hI93 (by decide)) (cRx hX94 (by decide))
                have hY_99 := hY_44.mono (cIx hI93 (by decide)) (cRx hX94 (by decide))
                have hP_100 := hP_45.mono (cIx hI93 (by decide)) (cRx hX94 (by decide))
                have hK_101 := hK_46.mono (cIx hI93 (by decide)) (cRx hX94 (by decide))
                have hX_102 := hX_47.mono (cIx hI93 (by decide)) (cRx hX94 (by decide))
                have hEI103 := hEI1.tr hI93 (by decide)
                have hER104 := hER49.tr hX94 (by decide)
                show pl _ _ _ (236, [(0, .ref m0), (2, .int 2), (3, .int (nI x)), (4, .int (nI (by2 f p1))), (5, .int (nI p)), (6, .int (nI s3)), (7, .int (nI i)), (8, .int (nI (by4 f (p + 2)))), (10, .int (nI w))], [.int (nI r89)], M52) _
                refine ps_st (S' := (238, [(11, .int (nI r89)), (0, .ref m0), (2, .int 2), (3, .int (nI x)), (4, .int (nI (by2 f p1))), (5, .int (nI p)), (6, .int (nI s3)), (7, .int (nI i)), (8, .int (nI (by4 f (p + 2)))), (10, .int (nI w))], [], M52)) rfl rfl rfl ?_
                refine ps_st (S' := (240, [(11, .int (nI r89)), (0, .ref m0), (2, .int 2), (3, .int (nI x)), (4, .int (nI (by2 f p1))), (5, .int (nI p)), (6, .int (nI s3)), (7, .int (nI i)), (8, .int (nI (by4 f (p + 2)))), (10, .int (nI w))], [.int (nI s3)], M52)) rfl rfl rfl ?_
                refine ps_st (S' := (241, [(11, .int (nI r89)), (0, .ref m0), (2, .int 2), (3, .int (nI x)), (4, .int (nI (by2 f p1))), (5, .int (nI p)), (6, .int (nI s3)), (7, .int (nI i)), (8, .int (nI (by4 f (p + 2)))), (10, .int (nI w))], [.int 1, .int (nI s3)], M52)) rfl rfl rfl ?_
                refine ps_st (S' := (243, [(11, .int (nI r89)), (0, .ref m0), (2, .int 2), (3, .int (nI x)), (4, .int (nI (by2 f p1))), (5, .int (nI p)), (6, .int (nI s3)), (7, .int (nI i)), (8, .int (nI (by4 f (p + 2)))), (10, .int (nI w))], [.int (nI w), .int 1, .int (nI s3)], M52)) rfl rfl rfl ?_
                refine ps_st (S' := (244, [(11, .int (nI r89)), (0, .ref m0), (2, .int 2), (3, .int (nI x)), (4, .int (nI (by2 f p1))), (5, .int (nI p)), (6, .int (nI s3)), (7, .int (nI i)), (8, .int (nI (by4 f (p + 2)))), (10, .int (nI w))], [.int (1 <<< ((nI w) &&& 31)), .int (nI s3)], M52)) rfl rfl rfl ?_
                refine ps_st (S' := (245, [(11, .int (nI r89)), (0, .ref m0), (2, .int 2), (3, .int (nI x)), (4, .int (nI (by2 f p1))), (5, .int (nI p)), (6, .int (nI s3)), (7, .int (nI i)), (8, .int (nI (by4 f (p + 2)))), (10, .int (nI w))], [.int ((nI s3) ||| (1 <<< ((nI w) &&& 31)))], M52)) rfl rfl rfl ?_
                rw [or_k s3 w (by omega)]
                show pl _ _ _ (_, [(11, .int (nI r89)), (0, .ref m0), (2, .int 2), (3, .int (nI x)), (4, .int (nI (by2 f p1))), (5, .int (nI p)), (6, .int (nI s3)), (7, .int (nI i)), (8, .int (nI (by4 f (p + 2)))), (10, .int (nI w))], [.int (nI (so s3 w))], M52) _
                refine ps_st (S' := (247, [(6, .int (nI (so s3 w))), (11, .int (nI r89)), (0, .ref m0), (2, .int 2), (3, .int (nI x)), (4, .int (nI (by2 f p1))), (5, .int (nI p)), (7, .int (nI i)), (8, .int (nI (by4 f (p + 2)))), (10, .int (nI w))], [], M52)) rfl rfl rfl ?_
                refine ps_st (S' := (249, [(6, .int (nI (so s3 w))), (11, .int (nI r89)), (0, .ref m0), (2, .int 2), (3, .int (nI x)), (4, .int (nI (by2 f p1))), (5, .int (nI p)), (7, .int (nI i)), (8, .int (nI (by4 f (p + 2)))), (10, .int (nI w))], [.int (nI r89)], M52)) rfl rfl rfl ?_
                refine ps_if (S1 := (261, [(0, .ref m0), (2, .int 2), (3, .int (nI x)), (4, .int (nI (by2 f p1))), (5, .int (nI p)), (6, .int (nI (so s3 w))), (7, .int (nI i)), (8, .int (nI (by4 f (p + 2)))), (11, .int (nI r89))], [], M52)) (S2 := (252, [(6, .int (nI (so s3 w))), (11, .int (nI r89)), (0, .ref m0), (2, .int 2), (3, .int (nI x)), (4, .int (nI (by2 f p1))), (5, .int (nI p)), (7, .int (nI i)), (8, .int (nI (by4 f (p + 2)))), (10, .int (nI w))], [], M52)) rfl rfl rfl (fun c_249 => ?_) (fun c_249 => ?_)
                · exact absurd (of_decide_eq_true c_249) (show ¬ ((nI r89) ≤ 0) from fun h9 => absurd ((le_nI (p := r89) (n := 0) (by omega) (by decide)).mp h9) (by omega))
                refine ps_st (S' := (253, [(6, .int (nI (so s3 w))), (11, .int (nI r89)), (0, .ref m0), (2, .int 2), (3, .int (nI x)), (4, .int (nI (by2 f p1))), (5, .int (nI p)), (7, .int (nI i)), (8, .int (nI (by4 f (p + 2)))), (10, .int (nI w))], [.ref m0], M52)) rfl rfl rfl ?_
                refine ps_st (S' := (255, [(6, .int (nI (so s3 w))), (11, .int (nI r89)), (0, .ref m0), (2, .int 2), (3, .int (nI x)), (4, .int (nI (by2 f p1))), (5, .int (nI p)), (7, .int (nI i)), (8, .int (nI (by4 f (p + 2)))), (10, .int (nI w))], [.int (nI r89), .ref m0], M52)) rfl rfl rfl ?_
                refine ps_st (S' := (257, [(6, .int (nI (so s3 w))), (11, .int (nI r89)), (0, .ref m0), (2, .int 2), (3, .int (nI x)), (4, .int (nI (by2 f p1))), (5, .int (nI p)), (7, .int (nI i)), (8, .int (nI (by4 f (p + 2)))), (10, .int (nI w))], [.int (nI p), .int (nI r89), .ref m0], M52)) rfl rfl rfl ?_
                refine pl_call (a := [.ref m0, .int (nI r89), .int (nI p)]) (rest := []) rfl rfl rfl (rd_wrong (x1 := (nI r89)) (x2 := (nI p)) hR92) (fun v105 M106 q107 => ?_)
                obtain ⟨I108, R109, rfl, hR110, hI111, hX112, hi113, hi114⟩ := q107
                have hi115 := (hI111 51 (by decide)).trans hi95
                have hi116 := (hI111 52 (by decide)).trans hi96
                have hi117 := (hI111 53 (by decide)).trans hi97
                have hF_118 := hF_98.mono (cIx hI111 (by decide)) (cRx hX112 (by decide))
                have hY_119 := hY_99.mono (cIx hI111 (by decide)) (cRx hX112 (by decide))
                have hP_120 := hP_100.mono (cIx hI111 (by decide)) (cRx hX112 (by decide))
                have hK_121 := hK_101.mono (cIx hI111 (by decide)) (cRx hX112 (by decide))
                have hX_122 := hX_102.mono (cIx hI111 (by decide)) (cRx hX112 (by decide))
                have hEI123 := hEI103.tr hI111 (by decide)
                have hER124 := hER104.tr hX112 (by decide)
                show pl _ _ _ (260, [(6, .int (nI (so s3 w))), (11, .int (nI r89)), (0, .ref m0), (2, .int 2), (3, .int (nI x)), (4, .int (nI (by2 f p1))), (5, .int (nI p)), (7, .int (nI i)), (8, .int (nI (by4 f (p + 2)))), (10, .int (nI w))], [.int 0], M106) _
                refine ps_st (S' := (261, [(0, .ref m0), (2, .int 2), (3, .int (nI x)), (4, .int (nI (by2 f p1))), (5, .int (nI p)), (6, .int (nI (so s3 w))), (7, .int (nI i)), (8, .int (nI (by4 f (p + 2)))), (11, .int (nI r89))], [], M106)) rfl rfl rfl ?_
                refine ps_st (S' := (263, [(0, .ref m0), (2, .int 2), (3, .int (nI x)), (4, .int (nI (by2 f p1))), (5, .int (nI p)), (6, .int (nI (so s3 w))), (7, .int (nI i)), (8, .int (nI (by4 f (p + 2)))), (11, .int (nI r89))], [.int (nI r89)], M106)) rfl rfl rfl ?_
                refine ps_if (S1 := (268, [(0, .ref m0), (2, .int 2), (3, .int (nI x)), (4, .int (nI (by2 f p1))), (5, .int (nI p)), (6, .int (nI (so s3 w))), (7, .int (nI i)), (8, .int (nI (by4 f (p + 2))))], [], M106)) (S2 := (266, [(0, .ref m0), (2, .int 2), (3, .int (nI x)), (4, .int (nI (by2 f p1))), (5, .int (nI p)), (6, .int (nI (so s3 w))), (7, .int (nI i)), (8, .int (nI (by4 f (p + 2)))), (11, .int (nI r89))], [], M106)) rfl rfl rfl (fun c_263 => ?_) (fun c_263 => ?_)
                · exact absurd (of_decide_eq_true c_263) (show ¬ ((nI r89) = 0) from fun h9 => absurd ((eq_nI (p := r89) (n := 0) (by omega) (by decide)).mp h9) (by omega))
                refine ps_st (S' := (267, [(0, .ref m0), (2, .int 2), (3, .int (nI x)), (4, .int (nI (by2 f p1))), (5, .int (nI p)), (6, .int (nI (so s3 w))), (7, .int (nI i)), (8, .int (nI (by4 f (p + 2)))), (11, .int (nI r89))], [.int (-1)], M106)) rfl rfl rfl ?_
                exact ps_ret rfl rfl (Or.inl ⟨(r89, p), I108, R109, by
                    rw [← hs9, maS_kb (i := i) (p := p) (s := s2) hi0 h1 hsm hw2 hs0 hb.2.2 q233_s q233_b], rfl, hR110, hEI123, hER124, hi113, hi114⟩)
              · skip
                obtain ⟨e9125, I126, R127, q233_s, q233_b, rfl, hR128, hI129, hX130, hi131, hi132⟩ := q53
                have hi133 := (hI129 51 (by decide)).trans hl51
                have hi134 := (hI129 52 (by decide)).trans hl52
                have hi135 := (hI129 53 (by decide)).trans hl53
                have hF_136 := hF_43.mono (cIx hI129 (by decide)) (cRx hX130 (by decide))
                have hY_137 := hY_44.mono (cIx hI129 (by decide)) (cRx hX130 (by decide))
                have hP_138 := hP_45.mono (cIx hI129 (by decide)) (cRx hX130 (by decide))
                have hK_139 := hK_46.mono (cIx hI129 (by decide)) (cRx hX130 (by decide))
                have hX_140 := hX_47.mono (cIx hI129 (by decide)) (cRx hX130 (by decide))
                have hEI141 := hEI1.tr hI129 (by decide)
                have hER142 := hER49.tr hX130 (by decide)
                show pl _ _ _ (236, [(0, .ref m0), (2, .int 2), (3, .int (nI x)), (4, .int (nI (by2 f p1))), (5, .int (nI p)), (6, .int (nI s3)), (7, .int (nI i)), (8, .int (nI (by4 f (p + 2)))), (10, .int (nI w))], [.int (-1)], M52) _
                refine ps_st (S' := (238, [(11, .int (-1)), (0, .ref m0), (2, .int 2), (3, .int (nI x)), (4, .int (nI (by2 f p1))), (5, .int (nI p)), (6, .int (nI s3)), (7, .int (nI i)), (8, .int (nI (by4 f (p + 2)))), (10, .int (nI w))], [], M52)) rfl rfl rfl ?_
                refine ps_st (S' := (240, [(11, .int (-1)), (0, .ref m0), (2, .int 2), (3, .int (nI x)), (4, .int (nI (by2 f p1))), (5, .int (nI p)), (6, .int (nI s3)), (7, .int (nI i)), (8, .int (nI (by4 f (p + 2)))), (10, .int (nI w))], [.int (nI s3)], M52)) rfl rfl rfl ?_
                refine ps_st (S' := (241, [(11, .int (-1)), (0, .ref m0), (2, .int 2), (3, .int (nI x)), (4, .int (nI (by2 f p1))), (5, .int (nI p)), (6, .int (nI s3)), (7, .int (nI i)), (8, .int (nI (by4 f (p + 2)))), (10, .int (nI w))], [.int 1, .int (nI s3)], M52)) rfl rfl rfl ?_
                refine ps_st (S' := (243, [(11, .int (-1)), (0, .ref m0), (2, .int 2), (3, .int (nI x)), (4, .int (nI (by2 f p1))), (5, .int (nI p)), (6, .int (nI s3)), (7, .int (nI i)), (8, .int (nI (by4 f (p + 2)))), (10, .int (nI w))], [.int (nI w), .int 1, .int (nI s3)], M52)) rfl rfl rfl ?_
                refine ps_st (S' := (244, [(11, .int (-1)), (0, .ref m0), (2, .int 2), (3, .int (nI x)), (4, .int (nI (by2 f p1))), (5, .int (nI p)), (6, .int (nI s3)), (7, .int (nI i)), (8, .int (nI (by4 f (p + 2)))), (10, .int (nI w))], [.int (1 <<< ((nI w) &&& 31)), .int (nI s3)], M52)) rfl rfl rfl ?_
                refine ps_st (S' := (245, [(11, .int (-1)), (0, .ref m0), (2, .int 2), (3, .int (nI x)), (4, .int (nI (by2 f p1))), (5, .int (nI p)), (6, .int (nI s3)), (7, .int (nI i)), (8, .int (nI (by4 f (p + 2)))), (10, .int (nI w))], [.int ((nI s3) ||| (1 <<< ((nI w) &&& 31)))], M52)) rfl rfl rfl ?_
                rw [or_k s3 w (by omega)]
                show pl _ _ _ (_, [(11, .int (-1)), (0, .ref m0), (2, .int 2), (3, .int (nI x)), (4, .int (nI (by2 f p1))), (5, .int (nI p)), (6, .int (nI s3)), (7, .int (nI i)), (8, .int (nI (by4 f (p + 2)))), (10, .int (nI w))], [.int (nI (so s3 w))], M52) _
                refine ps_st (S' := (247, [(6, .int (nI (so s3 w))), (11, .int (-1)), (0, .ref m0), (2, .int 2), (3, .int (nI x)), (4, .int (nI (by2 f p1))), (5, .int (nI p)), (7, .int (nI i)), (8, .int (nI (by4 f (p + 2)))), (10, .int (nI w))], [], M52)) rfl rfl rfl ?_
                refine ps_st (S' := (249, [(6, .int (nI (so s3 w))), (11, .int (-1)), (0, .ref m0), (2, .int 2), (3, .int (nI x)), (4, .int (nI (by2 f p1))), (5, .int (nI p)), (7, .int (nI i)), (8, .int (nI (by4 f (p + 2)))), (10, .int (nI w))], [.int (-1)], M52)) rfl rfl rfl ?_
                refine ps_if (S1 := (261, [(0, .ref m0), (2, .int 2), (3, .int (nI x)), (4, .int (nI (by2 f p1))), (5, .int (nI p)), (6, .int (nI (so s3 w))), (7, .int (nI i)), (8, .int (nI (by4 f (p + 2)))), (11, .int (-1))], [], M52)) (S2 := (252, [(6, .int (nI (so s3 w))), (11, .int (-1)), (0, .ref m0), (2, .int 2), (3, .int (nI x)), (4, .int (nI (by2 f p1))), (5, .int (nI p)), (7, .int (nI i)), (8, .int (nI (by4 f (p + 2)))), (10, .int (nI w))], [], M52)) rfl rfl rfl (fun c_249 => ?_) (fun c_249 => ?_)
                rotate_left
                · exact absurd (by decide) (of_decide_eq_false c_249)
                refine ps_st (S' := (263, [(0, .ref m0), (2, .int 2), (3, .int (nI x)), (4, .int (nI (by2 f p1))), (5, .int (nI p)), (6, .int (nI (so s3 w))), (7, .int (nI i)), (8, .int (nI (by4 f (p + 2)))), (11, .int (-1))], [.int (-1)], M52)) rfl rfl rfl ?_
                refine ps_if (S1 := (268, [(0, .ref m0), (2, .int 2), (3, .int (nI x)), (4, .int (nI (by2 f p1))), (5, .int (nI p)), (6, .int (nI (so s3 w))), (7, .int (nI i)), (8, .int (nI (by4 f (p + 2))))], [], M52)) (S2 := (266, [(0, .ref m0), (2, .int 2), (3, .int (nI x)), (4, .int (nI (by2 f p1))), (5, .int (nI p)), (6, .int (nI (so s3 w))), (7, .int (nI i)), (8, .int (nI (by4 f (p + 2)))), (11, .int (-1))], [], M52)) rfl rfl rfl (fun c_263 => ?_) (fun c_263 => ?_)
                · exact absurd (of_decide_eq_true c_263) (by decide)
                refine ps_st (S' := (267, [(0, .ref m0), (2, .int 2), (3, .int (nI x)), (4, .int (nI (by2 f p1))), (5, .int (nI p)), (6, .int (nI (so s3 w))), (7, .int (nI i)), (8, .int (nI (by4 f (p + 2)))), (11, .int (-1))], [.int (-1)], M52)) rfl rfl rfl ?_
                exact ps_ret rfl rfl (Or.inl ⟨e9125, I126, R127, by
                    rw [← hs9, maS_kb (i := i) (p := p) (s := s2) hi0 h1 hsm hw2 hs0 hb.2.2 q233_s q233_b], rfl, hR128, hEI141, hER142, hi131, hi132⟩)
              · skip
                obtain ⟨s'143, I144, R145, q233_s, q233_b, rfl, hR146, hI147, hX148, hC_149, hW_150⟩ := q53
                have hi151 := (hI147 51 (by decide)).trans hl51
                have hi152 := (hI147 52 (by decide)).trans hl52
                have hi153 := (hI147 53 (by decide)).trans hl53
                have hF_154 := hF_43.mono (cIx hI147 (by decide)) (cRx hX148 (by decide))
                have hY_155 := hY_44.mono (cIx hI147 (by decide)) (cRx hX148 (by decide))
                have hP_156 := hP_45.mono (cIx hI147 (by decide)) (cRx hX148 (by decide))
                have hK_157 := hK_46.mono (cIx hI147 (by decide)) (cRx hX148 (by decide))
                have hX_158 := hX_47.mono (cIx hI147 (by decide)) (cRx hX148 (by decide))
                have hEI159 := hEI1.tr hI147 (by decide)
                have hER160 := hER49.tr hX148 (by decide)
                show pl _ _ _ (236, [(0, .ref m0), (2, .int 2), (3, .int (nI x)), (4, .int (nI (by2 f p1))), (5, .int (nI p)), (6, .int (nI s3)), (7, .int (nI i)), (8, .int (nI (by4 f (p + 2)))), (10, .int (nI w))], [.int 0], M52) _
                refine ps_st (S' := (238, [(11, .int 0), (0, .ref m0), (2, .int 2), (3, .int (nI x)), (4, .int (nI (by2 f p1))), (5, .int (nI p)), (6, .int (nI s3)), (7, .int (nI i)), (8, .int (nI (by4 f (p + 2)))), (10, .int (nI w))], [], M52)) rfl rfl rfl ?_
                refine ps_st (S' := (240, [(11, .int 0), (0, .ref m0), (2, .int 2), (3, .int (nI x)), (4, .int (nI (by2 f p1))), (5, .int (nI p)), (6, .int (nI s3)), (7, .int (nI i)), (8, .int (nI (by4 f (p + 2)))), (10, .int (nI w))], [.int (nI s3)], M52)) rfl rfl rfl ?_
                refine ps_st (S' := (241, [(11, .int 0), (0, .ref m0), (2, .int 2), (3, .int (nI x)), (4, .int (nI (by2 f p1))), (5, .int (nI p)), (6, .int (nI s3)), (7, .int (nI i)), (8, .int (nI (by4 f (p + 2)))), (10, .int (nI w))], [.int 1, .int (nI s3)], M52)) rfl rfl rfl ?_
                refine ps_st (S' := (243, [(11, .int 0), (0, .ref m0), (2, .int 2), (3, .int (nI x)), (4, .int (nI (by2 f p1))), (5, .int (nI p)), (6, .int (nI s3)), (7, .int (nI i)), (8, .int (nI (by4 f (p + 2)))), (10, .int (nI w))], [.int (nI w), .int 1, .int (nI s3)], M52)) rfl rfl rfl ?_
                refine ps_st (S' := (244, [(11, .int 0), (0, .ref m0), (2, .int 2), (3, .int (nI x)), (4, .int (nI (by2 f p1))), (5, .int (nI p)), (6, .int (nI s3)), (7, .int (nI i)), (8, .int (nI (by4 f (p + 2)))), (10, .int (nI w))], [.int (1 <<< ((nI w) &&& 31)), .int (nI s3)], M52)) rfl rfl rfl ?_
                refine ps_st (S' := (245, [(11, .int 0), (0, .ref m0), (2, .int 2), (3, .int (nI x)), (4, .int (nI (by2 f p1))), (5, .int (nI p)), (6, .int (nI s3)), (7, .int (nI i)), (8, .int (nI (by4 f (p + 2)))), (10, .int (nI w))], [.int ((nI s3) ||| (1 <<< ((nI w) &&& 31)))], M52)) rfl rfl rfl ?_
                rw [or_k s3 w (by omega)]
                show pl _ _ _ (_, [(11, .int 0), (0, .ref m0), (2, .int 2), (3, .int (nI x)), (4, .int (nI (by2 f p1))), (5, .int (nI p)), (6, .int (nI s3)), (7, .int (nI i)), (8, .int (nI (by4 f (p + 2)))), (10, .int (nI w))], [.int (nI (so s3 w))], M52) _
                refine ps_st (S' := (247, [(6, .int (nI (so s3 w))), (11, .int 0), (0, .ref m0), (2, .int 2), (3, .int (nI x)), (4, .int (nI (by2 f p1))), (5, .int (nI p)), (7, .int (nI i)), (8, .int (nI (by4 f (p + 2)))), (10, .int (nI w))], [], M52)) rfl rfl rfl ?_
                refine ps_st (S' := (249, [(6, .int (nI (so s3 w))), (11, .int 0), (0, .ref m0), (2, .int 2), (3, .int (nI x)), (4, .int (nI (by2 f p1))), (5, .int (nI p)), (7, .int (nI i)), (8, .int (nI (by4 f (p + 2)))), (10, .int (nI w))], [.int 0], M52)) rfl rfl rfl ?_
                refine ps_if (S1 := (261, [(0, .ref m0), (2, .int 2), (3, .int (nI x)), (4, .int (nI (by2 f p1))), (5, .int (nI p)), (6, .int (nI (so s3 w))), (7, .int (nI i)), (8, .int (nI (by4 f (p + 2)))), (11, .int 0)], [], M52)) (S2 := (252, [(6, .int (nI (so s3 w))), (11, .int 0), (0, .ref m0), (2, .int 2), (3, .int (nI x)), (4, .int (nI (by2 f p1))), (5, .int (nI p)), (7, .int (nI i)), (8, .int (nI (by4 f (p + 2)))), (10, .int (nI w))], [], M52)) rfl rfl rfl (fun c_249 => ?_) (fun c_249 => ?_)
                rotate_left
                · exact absurd (by decide) (of_decide_eq_false c_249)
                refine ps_st (S' := (263, [(0, .ref m0), (2, .int 2), (3, .int (nI x)), (4, .int (nI (by2 f p1))), (5, .int (nI p)), (6, .int (nI (so s3 w))), (7, .int (nI i)), (8, .int (nI (by4 f (p + 2)))), (11, .int 0)], [.int 0], M52)) rfl rfl rfl ?_
                refine ps_if (S1 := (268, [(0, .ref m0), (2, .int 2), (3, .int (nI x)), (4, .int (nI (by2 f p1))), (5, .int (nI p)), (6, .int (nI (so s3 w))), (7, .int (nI i)), (8, .int (nI (by4 f (p + 2))))], [], M52)) (S2 := (266, [(0, .ref m0), (2, .int 2), (3, .int (nI x)), (4, .int (nI (by2 f p1))), (5, .int (nI p)), (6, .int (nI (so s3 w))), (7, .int (nI i)), (8, .int (nI (by4 f (p + 2)))), (11, .int 0)], [], M52)) rfl rfl rfl (fun c_263 => ?_) (fun c_263 => ?_)
                rotate_left
                · exact absurd (by decide) (of_decide_eq_false c_263)
                refine ps_st (S' := (270, [(0, .ref m0), (2, .int 2), (3, .int (nI x)), (4, .int (nI (by2 f p1))), (5, .int (nI p)), (6, .int (nI (so s3 w))), (7, .int (nI i)), (8, .int (nI (by4 f (p + 2))))], [.int (nI p)], M52)) rfl rfl rfl ?_
                refine ps_st (S' := (272, [(0, .ref m0), (2, .int 2), (3, .int (nI x)), (4, .int (nI (by2 f p1))), (5, .int (nI p)), (6, .int (nI (so s3 w))), (7, .int (nI i)), (8, .int (nI (by4 f (p + 2))))], [.int 6, .int (nI p)], M52)) rfl rfl rfl ?_
                refine ps_st (S' := (274, [(0, .ref m0), (2, .int 2), (3, .int (nI x)), (4, .int (nI (by2 f p1))), (5, .int (nI p)), (6, .int (nI (so s3 w))), (7, .int (nI i)), (8, .int (nI (by4 f (p + 2))))], [.int (nI (by4 f (p + 2))), .int 6, .int (nI p)], M52)) rfl rfl rfl ?_
                refine ps_st (S' := (275, [(0, .ref m0), (2, .int 2), (3, .int (nI x)), (4, .int (nI (by2 f p1))), (5, .int (nI p)), (6, .int (nI (so s3 w))), (7, .int (nI i)), (8, .int (nI (by4 f (p + 2))))], [.int (6 + (nI (by4 f (p + 2)))), .int (nI p)], M52)) rfl rfl rfl ?_
                rw [nI_add2 (p := 6) (k := by4 f (p + 2)) (x := 6) (y := (nI (by4 f (p + 2)))) rfl rfl (by omega)]
                show pl _ _ _ (_, [(0, .ref m0), (2, .int 2), (3, .int (nI x)), (4, .int (nI (by2 f p1))), (5, .int (nI p)), (6, .int (nI (so s3 w))), (7, .int (nI i)), (8, .int (nI (by4 f (p + 2))))], [.int (nI (6 + by4 f (p + 2))), .int (nI p)], M52) _
                refine ps_st (S' := (276, [(0, .ref m0), (2, .int 2), (3, .int (nI x)), (4, .int (nI (by2 f p1))), (5, .int (nI p)), (6, .int (nI (so s3 w))), (7, .int (nI i)), (8, .int (nI (by4 f (p + 2))))], [.int ((nI p) + (nI (6 + by4 f (p + 2))))], M52)) rfl rfl rfl ?_
                rw [nI_add1 (p := p) (k := 6 + by4 f (p + 2)) (x := (nI (6 + by4 f (p + 2)))) rfl (by omega)]
                rw [show nI (p + (6 + by4 f (p + 2))) = nI (p + 6 + by4 f (p + 2)) from congrArg nI (by omega)]
                show pl _ _ _ (_, [(0, .ref m0), (2, .int 2), (3, .int (nI x)), (4, .int (nI (by2 f p1))), (5, .int (nI p)), (6, .int (nI (so s3 w))), (7, .int (nI i)), (8, .int (nI (by4 f (p + 2))))], [.int (nI (p + 6 + by4 f (p + 2)))], M52) _
                refine ps_st (S' := (278, [(5, .int (nI (p + 6 + by4 f (p + 2)))), (0, .ref m0), (2, .int 2), (3, .int (nI x)), (4, .int (nI (by2 f p1))), (6, .int (nI (so s3 w))), (7, .int (nI i)), (8, .int (nI (by4 f (p + 2))))], [], M52)) rfl rfl rfl ?_
                refine ps_st (S' := (281, [(7, .int ((nI i) + 1)), (5, .int (nI (p + 6 + by4 f (p + 2)))), (0, .ref m0), (2, .int 2), (3, .int (nI x)), (4, .int (nI (by2 f p1))), (6, .int (nI (so s3 w))), (8, .int (nI (by4 f (p + 2))))], [], M52)) rfl rfl rfl ?_
                rw [nI_add1 (p := i) (k := 1) (x := 1) rfl (by omega)]
                show pl _ _ _ (_, [(7, .int (nI (i + 1))), (5, .int (nI (p + 6 + by4 f (p + 2)))), (0, .ref m0), (2, .int 2), (3, .int (nI x)), (4, .int (nI (by2 f p1))), (6, .int (nI (so s3 w))), (8, .int (nI (by4 f (p + 2))))], [], M52) _
                refine ps_st (S' := (18, [(0, .ref m0), (2, .int 2), (3, .int (nI x)), (4, .int (nI (by2 f p1))), (5, .int (nI (p + 6 + by4 f (p + 2)))), (6, .int (nI (so s3 w))), (7, .int (nI (i + 1)))], [], M52)) rfl rfl rfl ?_
                obtain ⟨s4, e4, f4, g4⟩ := maS_kg (i := i) (p := p) (s := s2) hi0 h1 hsm hw2 hs0 hb.2.2 q233_s q233_b
                exact ih.1 (i + 1) (p + 6 + by4 f (p + 2)) (s4) (so s3 w) (if w = 1 then 1 else h) (if w = 1 then (K.1 + 1, p, K.2.2) else (K.1 + 1, K.2.1, by2 f (p + 6))) M52 I144 R145 hR146 hEI159 hER160 hi151 hi152 hi153 hF_154 hY_155 hP_156 hK_157 hX_158 hC_149 hW_150 (by omega) (so_lt hl (by omega)) (mk_b hw2 hb f4 g4) (hq7) (by rw [← hs9, e4]) (by
                    rw [← hu, maU_st (i := i) (p := p) hi0, hsm, stM_w hw2]) (by split <;> exact Nat.succ_le_succ hkn) (by omega)
            · have c_198 : ¬ (¬ (nI (sb s3 w)) = 1) := of_decide_eq_false c_198
              have n_198 : sb s3 w = 1 := (eq_nI (p := sb s3 w) (n := 1) (Nat.lt_trans (sb_lt _ _) (by decide)) (by decide)).mp (Decidable.not_not.mp c_198)
              refine ps_st (S' := (202, [(0, .ref m0), (2, .int 2), (3, .int (nI x)), (4, .int (nI (by2 f p1))), (5, .int (nI p)), (6, .int (nI s3)), (7, .int (nI i)), (8, .int (nI (by4 f (p + 2)))), (10, .int (nI w))], [.ref m0], M39)) rfl rfl rfl ?_
              refine ps_st (S' := (204, [(0, .ref m0), (2, .int 2), (3, .int (nI x)), (4, .int (nI (by2 f p1))), (5, .int (nI p)), (6, .int (nI s3)), (7, .int (nI i)), (8, .int (nI (by4 f (p + 2)))), (10, .int (nI w))], [.int 29, .ref m0], M39)) rfl rfl rfl ?_
              refine ps_st (S' := (206, [(0, .ref m0), (2, .int 2), (3, .int (nI x)), (4, .int (nI (by2 f p1))), (5, .int (nI p)), (6, .int (nI s3)), (7, .int (nI i)), (8, .int (nI (by4 f (p + 2)))), (10, .int (nI w))], [.int (nI p), .int 29, .ref m0], M39)) rfl rfl rfl ?_
              refine pl_call (a := [.ref m0, .int 29, .int (nI p)]) (rest := []) rfl rfl rfl (rd_wrong (x1 := 29) (x2 := (nI p)) hR41) (fun v161 M162 q163 => ?_)
              obtain ⟨I164, R165, rfl, hR166, hI167, hX168, hi169, hi170⟩ := q163
              have hi171 := (hI167 51 (by decide)).trans hl51
              have hi172 := (hI167 52 (by decide)).trans hl52
              have hi173 := (hI167 53 (by decide)).trans hl53
              have hF_174 := hF_43.mono (cIx hI167 (by decide)) (cRx hX168 (by decide))
              have hY_175 := hY_44.mono (cIx hI167 (by decide)) (cRx hX168 (by decide))
              have hP_176 := hP_45.mono (cIx hI167 (by decide)) (cRx hX168 (by decide))
              have hK_177 := hK_46.mono (cIx hI167 (by decide)) (cRx hX168 (by decide))
              have hX_178 := hX_47.mono (cIx hI167 (by decide)) (cRx hX168 (by decide))
              have hC_179 := hC_48.mono (cIx hI167 (by decide)) (cRx hX168 (by decide))
              have hW_180 := hW_50.mono (cIx hI167 (by decide)) (cRx hX168 (by decide))
              have hEI181 := hEI1.tr hI167 (by decide)
              have hER182 := hER49.tr hX168 (by decide)
              show pl _ _ _ (209, [(0, .ref m0), (2, .int 2), (3, .int (nI x)), (4, .int (nI (by2 f p1))), (5, .int (nI p)), (6, .int (nI s3)), (7, .int (nI i)), (8, .int (nI (by4 f (p + 2)))), (10, .int (nI w))], [.int 0], M162) _
              refine ps_st (S' := (210, [(0, .ref m0), (2, .int 2), (3, .int (nI x)), (4, .int (nI (by2 f p1))), (5, .int (nI p)), (6, .int (nI s3)), (7, .int (nI i)), (8, .int (nI (by4 f (p + 2)))), (10, .int (nI w))], [], M162)) rfl rfl rfl ?_
              refine ps_st (S' := (211, [(0, .ref m0), (2, .int 2), (3, .int (nI x)), (4, .int (nI (by2 f p1))), (5, .int (nI p)), (6, .int (nI s3)), (7, .int (nI i)), (8, .int (nI (by4 f (p + 2)))), (10, .int (nI w))], [.int (-1)], M162)) rfl rfl rfl ?_
              exact ps_ret rfl rfl (Or.inl ⟨(29, p), I164, R165, by
                  rw [← hs9, maS_29 (i := i) (p := p) (s := s2) hi0 h1 hsm (by omega)], rfl, hR166, hEI181, hER182, hi169, hi170⟩)
        · have c_86 : ¬ ((nI 10) ≤ (nI k)) := of_decide_eq_false c_86
          have n_86 : ¬ (10 ≤ k) := fun h9 => c_86 ((le_nI (p := 10) (n := k) (by decide) (by omega)).mpr h9)
          refine ps_st (S' := (90, [(0, .ref m0), (2, .int 2), (3, .int (nI x)), (4, .int (nI (by2 f p1))), (5, .int (nI p)), (6, .int (nI s3)), (7, .int (nI i)), (8, .int (nI (by4 f (p + 2)))), (9, .int (nI t)), (10, .int (gI (kb mj 2 (tX f n E (by2 f p)) k))), (11, .int (nI k))], [.ref m0], M1)) rfl rfl rfl ?_
          refine pr_ref (j := 63) (S' := (93, [(0, .ref m0), (2, .int 2), (3, .int (nI x)), (4, .int (nI (by2 f p1))), (5, .int (nI p)), (6, .int (nI s3)), (7, .int (nI i)), (8, .int (nI (by4 f (p + 2)))), (9, .int (nI t)), (10, .int (gI (kb mj 2 (tX f n E (by2 f p)) k))), (11, .int (nI k))], [.ref (q 63)], M1)) rfl hR1 rfl rfl ?_
          refine ps_st (S' := (95, [(0, .ref m0), (2, .int 2), (3, .int (nI x)), (4, .int (nI (by2 f p1))), (5, .int (nI p)), (6, .int (nI s3)), (7, .int (nI i)), (8, .int (nI (by4 f (p + 2)))), (9, .int (nI t)), (10, .int (gI (kb mj 2 (tX f n E (by2 f p)) k))), (11, .int (nI k))], [.int (nI k), .ref (q 63)], M1)) rfl rfl rfl ?_
          have hki_95 := kiN_lt k
          refine pr_ld (a := 63) (j := k) (y := (nI (kiN k))) (S' := (96, [(0, .ref m0), (2, .int 2), (3, .int (nI x)), (4, .int (nI (by2 f p1))), (5, .int (nI p)), (6, .int (nI s3)), (7, .int (nI i)), (8, .int (nI (by4 f (p + 2)))), (9, .int (nI t)), (10, .int (gI (kb mj 2 (tX f n E (by2 f p)) k))), (11, .int (nI k))], [.int (nI (kiN k))], M1)) rfl hR1 rfl (by omega) (fun _ => (hK1 k (by omega)).1) rfl (fun i1_95 => ?_)
          refine ps_st (S' := (97, [(0, .ref m0), (2, .int 2), (3, .int (nI x)), (4, .int (nI (by2 f p1))), (5, .int (nI p)), (6, .int (nI s3)), (7, .int (nI i)), (8, .int (nI (by4 f (p + 2)))), (9, .int (nI t)), (10, .int (gI (kb mj 2 (tX f n E (by2 f p)) k))), (11, .int (nI k))], [.int 2, .int (nI (kiN k))], M1)) rfl rfl rfl ?_
          refine ps_if2 (S1 := (134, [(0, .ref m0), (2, .int 2), (3, .int (nI x)), (4, .int (nI (by2 f p1))), (5, .int (nI p)), (6, .int (nI s3)), (7, .int (nI i)), (8, .int (nI (by4 f (p + 2)))), (9, .int (nI t)), (10, .int (gI (kb mj 2 (tX f n E (by2 f p)) k))), (11, .int (nI k))], [], M1)) (S2 := (100, [(0, .ref m0), (2, .int 2), (3, .int (nI x)), (4, .int (nI (by2 f p1))), (5, .int (nI p)), (6, .int (nI s3)), (7, .int (nI i)), (8, .int (nI (by4 f (p + 2)))), (9, .int (nI t)), (10, .int (gI (kb mj 2 (tX f n E (by2 f p)) k))), (11, .int (nI k))], [], M1)) rfl rfl rfl (fun c_97 => ?_) (fun c_97 => ?_)
          · have c_97 : ¬ (nI (kiN k)) = 2 := of_decide_eq_true c_97
            have n_97 : ¬ (kiN k = 2) := fun h9 => c_97 ((eq_nI (p := kiN k) (n := 2) (Nat.lt_trans (kiN_lt _) (by decide)) (by decide)).mpr h9)
            refine ps_st (S' := (137, [(11, .int ((nI k) + 1)), (0, .ref m0), (2, .int 2), (3, .int (nI x)), (4, .int (nI (by2 f p1))), (5, .int (nI p)), (6, .int (nI s3)), (7, .int (nI i)), (8, .int (nI (by4 f (p + 2)))), (9, .int (nI t)), (10, .int (gI (kb mj 2 (tX f n E (by2 f p)) k)))], [], M1)) rfl rfl rfl ?_
            rw [nI_add1 (p := k) (k := 1) (x := 1) rfl (by omega)]
            show pl _ _ _ (_, [(11, .int (nI (k + 1))), (0, .ref m0), (2, .int 2), (3, .int (nI x)), (4, .int (nI (by2 f p1))), (5, .int (nI p)), (6, .int (nI s3)), (7, .int (nI i)), (8, .int (nI (by4 f (p + 2)))), (9, .int (nI t)), (10, .int (gI (kb mj 2 (tX f n E (by2 f p)) k)))], [], M1) _
            refine ps_st (S' := (79, [(0, .ref m0), (2, .int 2), (3, .int (nI x)), (4, .int (nI (by2 f p1))), (5, .int (nI p)), (6, .int (nI s3)), (7, .int (nI i)), (8, .int (nI (by4 f (p + 2)))), (9, .int (nI t)), (10, .int (gI (kb mj 2 (tX f n E (by2 f p)) k))), (11, .int (nI (k + 1)))], [], M1)) rfl rfl rfl ?_
            have hkb : (gI (kb mj 2 (tX f n E (by2 f p)) k)) = gI (kb mj 2 (tX f n E (by2 f p)) (k + 1)) := by
              conv => rhs; unfold kb
              rw [if_neg (by omega)]
            rw [hkb]
            exact ih.2 (i) (p) (s2) (s3) (k + 1) (t) (h) (K) M1 I1 R1 hR1 hEI1 hER1 hl51 hl52 hl53 hF1 hY1 hP1 hK1 hX1 hC1 hW1 (hi0) (hl) (hb) (ha) (hs9) (hu) (hkn) (hpp) (by omega) (h1) (hsy)
          · have c_97 : ¬ (¬ (nI (kiN k)) = 2) := of_decide_eq_false c_97
            have n_97 : kiN k = 2 := (eq_nI (p := kiN k) (n := 2) (Nat.lt_trans (kiN_lt _) (by decide)) (by decide)).mp (Decidable.not_not.mp c_97)
            refine ps_st (S' := (101, [(0, .ref m0), (2, .int 2), (3, .int (nI x)), (4, .int (nI (by2 f p1))), (5, .int (nI p)), (6, .int (nI s3)), (7, .int (nI i)), (8, .int (nI (by4 f (p + 2)))), (9, .int (nI t)), (10, .int (gI (kb mj 2 (tX f n E (by2 f p)) k))), (11, .int (nI k))], [.ref m0], M1)) rfl rfl rfl ?_
            refine pr_int (j := 53) (S' := (104, [(0, .ref m0), (2, .int 2), (3, .int (nI x)), (4, .int (nI (by2 f p1))), (5, .int (nI p)), (6, .int (nI s3)), (7, .int (nI i)), (8, .int (nI (by4 f (p + 2)))), (9, .int (nI t)), (10, .int (gI (kb mj 2 (tX f n E (by2 f p)) k))), (11, .int (nI k))], [.int (nI mj)], M1)) rfl hR1 rfl hl53 rfl ?_
            refine ps_st (S' := (105, [(0, .ref m0), (2, .int 2), (3, .int (nI x)), (4, .int (nI (by2 f p1))), (5, .int (nI p)), (6, .int (nI s3)), (7, .int (nI i)), (8, .int (nI (by4 f (p + 2)))), (9, .int (nI t)), (10, .int (gI (kb mj 2 (tX f n E (by2 f p)) k))), (11, .int (nI k))], [.ref m0, .int (nI mj)], M1)) rfl rfl rfl ?_
            refine pr_ref (j := 64) (S' := (108, [(0, .ref m0), (2, .int 2), (3, .int (nI x)), (4, .int (nI (by2 f p1))), (5, .int (nI p)), (6, .int (nI s3)), (7, .int (nI i)), (8, .int (nI (by4 f (p + 2)))), (9, .int (nI t)), (10, .int (gI (kb mj 2 (tX f n E (by2 f p)) k))), (11, .int (nI k))], [.ref (q 64), .int (nI mj)], M1)) rfl hR1 rfl rfl ?_
            refine ps_st (S' := (110, [(0, .ref m0), (2, .int 2), (3, .int (nI x)), (4, .int (nI (by2 f p1))), (5, .int (nI p)), (6, .int (nI s3)), (7, .int (nI i)), (8, .int (nI (by4 f (p + 2)))), (9, .int (nI t)), (10, .int (gI (kb mj 2 (tX f n E (by2 f p)) k))), (11, .int (nI k))], [.int (nI k), .ref (q 64), .int (nI mj)], M1)) rfl rfl rfl ?_
            have hkf_110 := kfN_lt k
            refine pr_ld (a := 64) (j := k) (y := (nI (kfN k))) (S' := (111, [(0, .ref m0), (2, .int 2), (3, .int (nI x)), (4, .int (nI (by2 f p1))), (5, .int (nI p)), (6, .int (nI s3)), (7, .int (nI i)), (8, .int (nI (by4 f (p + 2)))), (9, .int (nI t)), (10, .int (gI (kb mj 2 (tX f n E (by2 f p)) k))), (11, .int (nI k))], [.int (nI (kfN k)), .int (nI mj)], M1)) rfl hR1 rfl (by omega) (fun _ => (hK1 k (by omega)).2) rfl (fun i1_110 => ?_)
            refine ps_if2 (S1 := (134, [(0, .ref m0), (2, .int 2), (3, .int (nI x)), (4, .int (nI (by2 f p1))), (5, .int (nI p)), (6, .int (nI s3)), (7, .int (nI i)), (8, .int (nI (by4 f (p + 2)))), (9, .int (nI t)), (10, .int (gI (kb mj 2 (tX f n E (by2 f p)) k))), (11, .int (nI k))], [], M1)) (S2 := (114, [(0, .ref m0), (2, .int 2), (3, .int (nI x)), (4, .int (nI (by2 f p1))), (5, .int (nI p)), (6, .int (nI s3)), (7, .int (nI i)), (8, .int (nI (by4 f (p + 2)))), (9, .int (nI t)), (10, .int (gI (kb mj 2 (tX f n E (by2 f p)) k))), (11, .int (nI k))], [], M1)) rfl rfl rfl (fun c_111 => ?_) (fun c_111 => ?_)
            · have c_111 : (nI mj) < (nI (kfN k)) := of_decide_eq_true c_111
              have n_111 : mj < kfN k := (lt_nI (p := mj) (n := kfN k) (by omega) (Nat.lt_trans (kfN_lt _) (by decide))).mp c_111
              refine ps_st (S' := (137, [(11, .int ((nI k) + 1)), (0, .ref m0), (2, .int 2), (3, .int (nI x)), (4, .int (nI (by2 f p1))), (5, .int (nI p)), (6, .int (nI s3)), (7, .int (nI i)), (8, .int (nI (by4 f (p + 2)))), (9, .int (nI t)), (10, .int (gI (kb mj 2 (tX f n E (by2 f p)) k)))], [], M1)) rfl rfl rfl ?_
              rw [nI_add1 (p := k) (k := 1) (x := 1) rfl (by omega)]
              show pl _ _ _ (_, [(11, .int (nI (k + 1))), (0, .ref m0), (2, .int 2), (3, .int (nI x)), (4, .int (nI (by2 f p1))), (5, .int (nI p)), (6, .int (nI s3)), (7, .int (nI i)), (8, .int (nI (by4 f (p + 2)))), (9, .int (nI t)), (10, .int (gI (kb mj 2 (tX f n E (by2 f p)) k)))], [], M1) _
              refine ps_st (S' := (79, [(0, .ref m0), (2, .int 2), (3, .int (nI x)), (4, .int (nI (by2 f p1))), (5, .int (nI p)), (6, .int (nI s3)), (7, .int (nI i)), (8, .int (nI (by4 f (p + 2)))), (9, .int (nI t)), (10, .int (gI (kb mj 2 (tX f n E (by2 f p)) k))), (11, .int (nI (k + 1)))], [], M1)) rfl rfl rfl ?_
              have hkb : (gI (kb mj 2 (tX f n E (by2 f p)) k)) = gI (kb mj 2 (tX f n E (by2 f p)) (k + 1)) := by
                conv => rhs; unfold kb
                rw [if_neg (by omega)]
              rw [hkb]
              exact ih.2 (i) (p) (s2) (s3) (k + 1) (t) (h) (K) M1 I1 R1 hR1 hEI1 hER1 hl51 hl52 hl53 hF1 hY1 hP1 hK1 hX1 hC1 hW1 (hi0) (hl) (hb) (ha) (hs9) (hu) (hkn) (hpp) (by omega) (h1) (hsy)
            · have c_111 : ¬ ((nI mj) < (nI (kfN k))) := of_decide_eq_false c_111
              have n_111 : ¬ (mj < kfN k) := fun h9 => c_111 ((lt_nI (p := mj) (n := kfN k) (by omega) (Nat.lt_trans (kfN_lt _) (by decide))).mpr h9)
              refine ps_st (S' := (115, [(0, .ref m0), (2, .int 2), (3, .int (nI x)), (4, .int (nI (by2 f p1))), (5, .int (nI p)), (6, .int (nI s3)), (7, .int (nI i)), (8, .int (nI (by4 f (p + 2)))), (9, .int (nI t)), (10, .int (gI (kb mj 2 (tX f n E (by2 f p)) k))), (11, .int (nI k))], [.ref m0], M1)) rfl rfl rfl ?_
              refine ps_st (S' := (117, [(0, .ref m0), (2, .int 2), (3, .int (nI x)), (4, .int (nI (by2 f p1))), (5, .int (nI p)), (6, .int (nI s3)), (7, .int (nI i)), (8, .int (nI (by4 f (p + 2)))), (9, .int (nI t)), (10, .int (gI (kb mj 2 (tX f n E (by2 f p)) k))), (11, .int (nI k))], [.int (nI t), .ref m0], M1)) rfl rfl rfl ?_
              refine ps_st (S' := (118, [(0, .ref m0), (2, .int 2), (3, .int (nI x)), (4, .int (nI (by2 f p1))), (5, .int (nI p)), (6, .int (nI s3)), (7, .int (nI i)), (8, .int (nI (by4 f (p + 2)))), (9, .int (nI t)), (10, .int (gI (kb mj 2 (tX f n E (by2 f p)) k))), (11, .int (nI k))], [.ref m0, .int (nI t), .ref m0], M1)) rfl rfl rfl ?_
              refine pr_ref (j := 62) (S' := (121, [(0, .ref m0), (2, .int 2), (3, .int (nI x)), (4, .int (nI (by2 f p1))), (5, .int (nI p)), (6, .int (nI s3)), (7, .int (nI i)), (8, .int (nI (by4 f (p + 2)))), (9, .int (nI t)), (10, .int (gI (kb mj 2 (tX f n E (by2 f p)) k))), (11, .int (nI k))], [.ref (q 62), .int (nI t), .ref m0], M1)) rfl hR1 rfl rfl ?_
              refine ps_st (S' := (123, [(0, .ref m0), (2, .int 2), (3, .int (nI x)), (4, .int (nI (by2 f p1))), (5, .int (nI p)), (6, .int (nI s3)), (7, .int (nI i)), (8, .int (nI (by4 f (p + 2)))), (9, .int (nI t)), (10, .int (gI (kb mj 2 (tX f n E (by2 f p)) k))), (11, .int (nI k))], [.int (nI k), .ref (q 62), .int (nI t), .ref m0], M1)) rfl rfl rfl ?_
              refine pr_kn (j := k) (S' := (124, [(0, .ref m0), (2, .int 2), (3, .int (nI x)), (4, .int (nI (by2 f p1))), (5, .int (nI p)), (6, .int (nI s3)), (7, .int (nI i)), (8, .int (nI (by4 f (p + 2)))), (9, .int (nI t)), (10, .int (gI (kb mj 2 (tX f n E (by2 f p)) k))), (11, .int (nI k))], [.ref (g.2.1 (15 + k)), .int (nI t), .ref m0], M1)) rfl hR1 (by omega) rfl ?_
              refine pl_call (a := [.ref m0, .int (nI t), .ref (g.2.1 (15 + k))]) (rest := []) rfl rfl rfl (rd_is (tx := tx) (cN := cN) (A := A) (s := t) (l := (tX f n E (by2 f p))) (lk := (15 + k)) hR1 hY1 (hsy) (⟨by omega, by omega⟩)) (fun v183 M184 q185 => ?_)
              obtain ⟨rfl, rfl⟩ := q185
              show pl _ _ _ (127, [(0, .ref m0), (2, .int 2), (3, .int (nI x)), (4, .int (nI (by2 f p1))), (5, .int (nI p)), (6, .int (nI s3)), (7, .int (nI i)), (8, .int (nI (by4 f (p + 2)))), (9, .int (nI t)), (10, .int (gI (kb mj 2 (tX f n E (by2 f p)) k))), (11, .int (nI k))], [.int (nI (eqN (tX f n E (by2 f p)) (ltx (15 + k))))], M1) _
              refine ps_if (S1 := (134, [(0, .ref m0), (2, .int 2), (3, .int (nI x)), (4, .int (nI (by2 f p1))), (5, .int (nI p)), (6, .int (nI s3)), (7, .int (nI i)), (8, .int (nI (by4 f (p + 2)))), (9, .int (nI t)), (10, .int (gI (kb mj 2 (tX f n E (by2 f p)) k))), (11, .int (nI k))], [], M1)) (S2 := (130, [(0, .ref m0), (2, .int 2), (3, .int (nI x)), (4, .int (nI (by2 f p1))), (5, .int (nI p)), (6, .int (nI s3)), (7, .int (nI i)), (8, .int (nI (by4 f (p + 2)))), (9, .int (nI t)), (10, .int (gI (kb mj 2 (tX f n E (by2 f p)) k))), (11, .int (nI k))], [], M1)) rfl rfl rfl (fun c_127 => ?_) (fun c_127 => ?_)
              · have c_127 : (nI (eqN (tX f n E (by2 f p)) (ltx (15 + k)))) = 0 := of_decide_eq_true c_127
                have n_127 : eqN (tX f n E (by2 f p)) (ltx (15 + k)) = 0 := (eq_nI (p := eqN (tX f n E (by2 f p)) (ltx (15 + k))) (n := 0) (Nat.lt_trans (le1_eq _ _) (by decide)) (by decide)).mp c_127
                refine ps_st (S' := (137, [(11, .int ((nI k) + 1)), (0, .ref m0), (2, .int 2), (3, .int (nI x)), (4, .int (nI (by2 f p1))), (5, .int (nI p)), (6, .int (nI s3)), (7, .int (nI i)), (8, .int (nI (by4 f (p + 2)))), (9, .int (nI t)), (10, .int (gI (kb mj 2 (tX f n E (by2 f p)) k)))], [], M1)) rfl rfl rfl ?_
                rw [nI_add1 (p := k) (k := 1) (x := 1) rfl (by omega)]
                show pl _ _ _ (_, [(11, .int (nI (k + 1))), (0, .ref m0), (2, .int 2), (3, .int (nI x)), (4, .int (nI (by2 f p1))), (5, .int (nI p)), (6, .int (nI s3)), (7, .int (nI i)), (8, .int (nI (by4 f (p + 2)))), (9, .int (nI t)), (10, .int (gI (kb mj 2 (tX f n E (by2 f p)) k)))], [], M1) _
                refine ps_st (S' := (79, [(0, .ref m0), (2, .int 2), (3, .int (nI x)), (4, .int (nI (by2 f p1))), (5, .int (nI p)), (6, .int (nI s3)), (7, .int (nI i)), (8, .int (nI (by4 f (p + 2)))), (9, .int (nI t)), (10, .int (gI (kb mj 2 (tX f n E (by2 f p)) k))), (11, .int (nI (k + 1)))], [], M1)) rfl rfl rfl ?_
                have hkb : (gI (kb mj 2 (tX f n E (by2 f p)) k)) = gI (kb mj 2 (tX f n E (by2 f p)) (k + 1)) := by
                  conv => rhs; unfold kb
                  rw [if_neg (by omega)]
                rw [hkb]
                exact ih.2 (i) (p) (s2) (s3) (k + 1) (t) (h) (K) M1 I1 R1 hR1 hEI1 hER1 hl51 hl52 hl53 hF1 hY1 hP1 hK1 hX1 hC1 hW1 (hi0) (hl) (hb) (ha) (hs9) (hu) (hkn) (hpp) (by omega) (h1) (hsy)
              · have c_127 : ¬ ((nI (eqN (tX f n E (by2 f p)) (ltx (15 + k)))) = 0) := of_decide_eq_false c_127
                have n_127 : ¬ (eqN (tX f n E (by2 f p)) (ltx (15 + k)) = 0) := fun h9 => c_127 ((eq_nI (p := eqN (tX f n E (by2 f p)) (ltx (15 + k))) (n := 0) (Nat.lt_trans (le1_eq _ _) (by decide)) (by decide)).mpr h9)
                refine ps_st (S' := (132, [(0, .ref m0), (2, .int 2), (3, .int (nI x)), (4, .int (nI (by2 f p1))), (5, .int (nI p)), (6, .int (nI s3)), (7, .int (nI i)), (8, .int (nI (by4 f (p + 2)))), (9, .int (nI t)), (10, .int (gI (kb mj 2 (tX f n E (by2 f p)) k))), (11, .int (nI k))], [.int (nI k)], M1)) rfl rfl rfl ?_
                refine ps_st (S' := (134, [(0, .ref m0), (2, .int 2), (3, .int (nI x)), (4, .int (nI (by2 f p1))), (5, .int (nI p)), (6, .int (nI s3)), (7, .int (nI i)), (8, .int (nI (by4 f (p + 2)))), (9, .int (nI t)), (10, .int (nI k)), (11, .int (nI k))], [], M1)) rfl rfl rfl ?_
                refine ps_st (S' := (137, [(11, .int ((nI k) + 1)), (0, .ref m0), (2, .int 2), (3, .int (nI x)), (4, .int (nI (by2 f p1))), (5, .int (nI p)), (6, .int (nI s3)), (7, .int (nI i)), (8, .int (nI (by4 f (p + 2)))), (9, .int (nI t)), (10, .int (nI k))], [], M1)) rfl rfl rfl ?_
                rw [nI_add1 (p := k) (k := 1) (x := 1) rfl (by omega)]
                show pl _ _ _ (_, [(11, .int (nI (k + 1))), (0, .ref m0), (2, .int 2), (3, .int (nI x)), (4, .int (nI (by2 f p1))), (5, .int (nI p)), (6, .int (nI s3)), (7, .int (nI i)), (8, .int (nI (by4 f (p + 2)))), (9, .int (nI t)), (10, .int (nI k))], [], M1) _
                refine ps_st (S' := (79, [(0, .ref m0), (2, .int 2), (3, .int (nI x)), (4, .int (nI (by2 f p1))), (5, .int (nI p)), (6, .int (nI s3)), (7, .int (nI i)), (8, .int (nI (by4 f (p + 2)))), (9, .int (nI t)), (10, .int (nI k)), (11, .int (nI (k + 1)))], [], M1)) rfl rfl rfl ?_
                have hkb : (nI k) = gI (kb mj 2 (tX f n E (by2 f p)) (k + 1)) := by
                  conv => rhs; unfold kb
                  rw [if_pos ⟨by omega, by omega, by omega⟩]
                  rfl
                rw [hkb]
                exact ih.2 (i) (p) (s2) (s3) (k + 1) (t) (h) (K) M1 I1 R1 hR1 hEI1 hER1 hl51 hl52 hl53 hF1 hY1 hP1 hK1 hX1 hC1 hW1 (hi0) (hl) (hb) (ha) (hs9) (hu) (hkn) (hpp) (by omega) (h1) (hsy)
  refine ps_st (S' := (1, [(0, .ref m0), (1, .int (nI p1)), (2, .int 2), (3, .int (nI x))], [.ref m0], M)) rfl rfl rfl ?_
  refine ps_st (S' := (2, [(0, .ref m0), (1, .int (nI p1)), (2, .int 2), (3, .int (nI x))], [.int (nI p1), .ref m0], M)) rfl rfl rfl ?_
  refine pl_call (a := [.ref m0, .int (nI p1)]) (rest := []) rfl rfl rfl (rd_u2 (n := n) (f := f) (p := p1) hR hF (by omega)) (fun v186 M187 q188 => ?_)
  obtain ⟨rfl, rfl⟩ := q188
  show pl _ _ _ (5, [(0, .ref m0), (1, .int (nI p1)), (2, .int 2), (3, .int (nI x))], [.int (nI (by2 f p1))], M) _
  have hu_2 := by2_lt f p1
  refine ps_st (S' := (7, [(4, .int (nI (by2 f p1))), (0, .ref m0), (1, .int (nI p1)), (2, .int 2), (3, .int (nI x))], [], M)) rfl rfl rfl ?_
  refine ps_st (S' := (8, [(4, .int (nI (by2 f p1))), (0, .ref m0), (1, .int (nI p1)), (2, .int 2), (3, .int (nI x))], [.int (nI p1)], M)) rfl rfl rfl ?_
  refine ps_st (S' := (9, [(4, .int (nI (by2 f p1))), (0, .ref m0), (1, .int (nI p1)), (2, .int 2), (3, .int (nI x))], [.int 2, .int (nI p1)], M)) rfl rfl rfl ?_
  refine ps_st (S' := (10, [(4, .int (nI (by2 f p1))), (0, .ref m0), (1, .int (nI p1)), (2, .int 2), (3, .int (nI x))], [.int ((nI p1) + 2)], M)) rfl rfl rfl ?_
  rw [nI_add1 (p := p1) (k := 2) (x := 2) rfl (by omega)]
  show pl _ _ _ (_, [(4, .int (nI (by2 f p1))), (0, .ref m0), (1, .int (nI p1)), (2, .int 2), (3, .int (nI x))], [.int (nI (p1 + 2))], M) _
  refine ps_st (S' := (12, [(5, .int (nI (p1 + 2))), (4, .int (nI (by2 f p1))), (0, .ref m0), (1, .int (nI p1)), (2, .int 2), (3, .int (nI x))], [], M)) rfl rfl rfl ?_
  refine ps_st (S' := (13, [(5, .int (nI (p1 + 2))), (4, .int (nI (by2 f p1))), (0, .ref m0), (1, .int (nI p1)), (2, .int 2), (3, .int (nI x))], [.int 0], M)) rfl rfl rfl ?_
  refine ps_st (S' := (15, [(6, .int 0), (5, .int (nI (p1 + 2))), (4, .int (nI (by2 f p1))), (0, .ref m0), (1, .int (nI p1)), (2, .int 2), (3, .int (nI x))], [], M)) rfl rfl rfl ?_
  refine ps_st (S' := (16, [(6, .int 0), (5, .int (nI (p1 + 2))), (4, .int (nI (by2 f p1))), (0, .ref m0), (1, .int (nI p1)), (2, .int 2), (3, .int (nI x))], [.int 0], M)) rfl rfl rfl ?_
  refine ps_st (S' := (18, [(0, .ref m0), (2, .int 2), (3, .int (nI x)), (4, .int (nI (by2 f p1))), (5, .int (nI (p1 + 2))), (6, .int 0), (7, .int 0)], [], M)) rfl rfl rfl ?_
  exact (LL kf).1 (0) (p1 + 2) (0) (0) (0) ((0, 0, 0)) M I R hR hEI hER hi51 hi52 hi53 hF hY hP hK hX hC hW (by omega) (by decide) (⟨rfl, rfl, fun _ => sb_0⟩) (hat) (rfl) (rfl) (Nat.le_refl _) (by omega)
end
