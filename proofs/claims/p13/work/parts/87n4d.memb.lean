/-! what members tell (my own text) -/
section MUA
variable (f : Nat → Int32) (n : Nat) (E : List (Nat × Nat))
def stF (x k p : Nat) (K : Nat × Nat) : Nat × Nat := (if k = 0 then K.1 else K.1 + 1, if ¬ k = 0 ∧ ¬ hasN x 8 = 0 then by2 f (p + 6) else K.2)
/-- what a field's attributes tell: how many are known, the constant -/
def faU (x : Nat) : Nat → Nat → Nat × Nat → Nat × Nat
  | 0, _, K => K
  | r + 1, p, K => faU x r (p + 6 + by4 f (p + 2)) (stF f x (fkN f n E (by2 f p)) p K)
def stM (k p : Nat) (K : Nat × Nat × Nat) : Nat × Nat × Nat := (if k = 0 then K.1 else K.1 + 1, if k = 2 then p else K.2.1, if k = 3 then by2 f (p + 6) else K.2.2)
/-- what a method's attributes tell: how many are known, where its code is (0: nowhere), how many exceptions -/
def maU : Nat → Nat → Nat × Nat × Nat → Nat × Nat × Nat
  | 0, _, K => K
  | r + 1, p, K => maU r (p + 6 + by4 f (p + 2)) (stM f (mkN f n E (by2 f p)) p K)
def fK (b : Nat) : Nat × Nat := faU f n E (by2 f b) (by2 f (b + 6)) (b + 8) (0, 0)
def mK (b : Nat) : Nat × Nat × Nat := maU f n E (by2 f (b + 6)) (b + 8) (0, 0, 0)
end MUA
section MUB
variable {f : Nat → Int32} {n : Nat} {E : List (Nat × Nat)} {mj : Nat}
theorem faU_st {x c i p : Nat} {K : Nat × Nat} (h : i < c) : faU f n E x (c - i) p K = faU f n E x (c - (i + 1)) (p + 6 + by4 f (p + 2)) (stF f x (fkN f n E (by2 f p)) p K) := by
  rw [show c - i = (c - (i + 1)) + 1 by omega]
  rfl
theorem maU_st {c i p : Nat} {K : Nat × Nat × Nat} (h : i < c) : maU f n E (c - i) p K = maU f n E (c - (i + 1)) (p + 6 + by4 f (p + 2)) (stM f (mkN f n E (by2 f p)) p K) := by
  rw [show c - i = (c - (i + 1)) + 1 by omega]
  rfl
theorem stF_0 {x p : Nat} {K : Nat × Nat} : stF f x 0 p K = K := by
  unfold stF
  rw [if_pos rfl, if_neg (fun h => h.1 rfl)]
theorem stF_n {x p : Nat} {K : Nat × Nat} (h : hasN x 8 = 0) : stF f x 1 p K = (K.1 + 1, K.2) := by
  unfold stF
  rw [if_neg (by decide), if_neg (fun h9 => h9.2 h)]
theorem stF_s {x p : Nat} {K : Nat × Nat} (h : ¬ hasN x 8 = 0) : stF f x 1 p K = (K.1 + 1, by2 f (p + 6)) := by
  unfold stF
  rw [if_neg (by decide), if_pos ⟨by decide, h⟩]
theorem stM_0 {p : Nat} {K : Nat × Nat × Nat} : stM f 0 p K = K := by
  unfold stM
  rw [if_pos rfl, if_neg (by decide), if_neg (by decide)]
theorem stM_2 {p : Nat} {K : Nat × Nat × Nat} : stM f 2 p K = (K.1 + 1, p, K.2.2) := by
  unfold stM
  rw [if_neg (by decide), if_pos rfl, if_neg (by decide)]
theorem stM_3 {p : Nat} {K : Nat × Nat × Nat} : stM f 3 p K = (K.1 + 1, K.2.1, by2 f (p + 6)) := by
  unfold stM
  rw [if_neg (by decide), if_neg (by decide), if_pos rfl]
theorem mk_3 (f : Nat → Int32) (n : Nat) (E : List (Nat × Nat)) (x : Nat) : mkN f n E x = 0 ∨ mkN f n E x = 2 ∨ mkN f n E x = 3 := by
  unfold mkN
  repeat' split
  all_goals omega
theorem ca_bits {r p s s1 : Nat} (h : caS f n E mj r p s = .inr s1) (j : Nat) (hj : ¬ j = 4) : sb s1 j = sb s j := by
  obtain ⟨s', h1, h2⟩ := (caS_any (f := f) (n := n) (E := E) (mj := mj) (r := r) (p := p) (s := s) (s0 := s) rfl).2 s1 h
  rw [h] at h1
  cases h1
  exact h2 j hj
theorem cd_bits {w p s s1 : Nat} (h : cdS f n E mj w p s = .inr s1) (j : Nat) (hj : ¬ j = 4) : sb s1 j = sb s j := by
  unfold cdS at h
  split at h
  · cases h
  · split at h
    · cases h
    · split at h
      · cases h
      · exact ca_bits h j hj
theorem nw_two {s k p s' : Nat} (h : nwS f E s k p = .inr s') (hk : k = 0 ∨ k = 2 ∨ k = 3) : sb s' 2 + sb s' 3 = if k = 0 then sb s 2 + sb s 3 else sb s 2 + sb s 3 + 1 := by
  unfold nwS at h
  split at h
  · cases h
  · split at h
    · rename_i h1
      cases h
      rw [if_pos h1]
    · rename_i h1
      split at h
      · cases h
      · rename_i h2
        cases h
        have h3 := Decidable.not_not.mp h2
        rw [if_neg h1, sb_so, sb_so]
        rcases hk with hk | rfl | rfl
        · exact absurd hk h1
        · rw [h3, if_pos rfl, if_neg (by decide)]
          omega
        · rw [h3, if_neg (by decide), if_pos rfl]
theorem pop_12 : ∀ s, s < 2048 → popN (aN s 12) = sb s 2 + sb s 3 := by decide +kernel
end MUB
section MUC
variable {f : Nat → Int32} {n mj q b : Nat} {E : List (Nat × Nat)} {M M' : mi_H}
abbrev cdc (f : Nat → Int32) (mj q p z : Nat) (x8 : Int32) (v9 v10 : Value) : mi_C := ob 4 [.int (nI (by2 f (p + 6))), .int (nI (by2 f (p + 8))), .int (nI (by4 f (p + 10))), .int (nI (p + 14 + by4 f (p + 10) + 2)), .int (nI (by2 f (p + 14 + by4 f (p + 10)))), .ref q, .int (nI mj), .ref (z + 1), .int x8, v9, v10]
abbrev inc (f : Nat → Int32) (b p : Nat) (l : List Value) : mi_C := ob 5 (.ref b :: .int (nI (p + 14)) :: .int (nI (by4 f (p + 10))) :: l)
/-- code as it was made, from lo on: that of the attribute at p, or none -/
def CD0 (f : Nat → Int32) (mj q b p : Nat) (v : Value) (lo : Nat) (M : mi_H) : Prop := (p = 0 ∧ v = .null) ∨ (¬ p = 0 ∧ ∃ z : Nat, v = .ref z ∧ lo ≤ z ∧ z + 1 < M.2.1 ∧ M.1 z = some (cdc f mj q p z 0 .null .null) ∧ M.1 (z + 1) = some (inc f b p [.int 0, .int 0, .int 0, .int 0, .int 0, .int 0, .int 0, .int 0, .int 0]))
/-- cells that aren't of code -/
def nC (S : List Nat) (M : mi_H) : Prop := ∀ z ∈ S, ∃ ci l, M.1 z = some (ob ci l) ∧ ¬ ci = 4 ∧ ¬ ci = 5
theorem nCn : nC [] M := fun z hz => by cases hz
theorem nCc {S : List Nat} {z ci : Nat} {l : List Value} (h : M.1 z = some (ob ci l)) (hc : ¬ ci = 4 ∧ ¬ ci = 5) (hs : nC S M) : nC (z :: S) M := fun y hy => by
  rcases List.mem_cons.mp hy with rfl | hy
  · exact ⟨ci, l, h, hc⟩
  · exact hs y hy
theorem nC.out {S : List Nat} {z ci : Nat} {l : List Value} (hs : nC S M) (h : M.1 z = some (ob ci l)) (hc : ci = 4 ∨ ci = 5) : ¬ z ∈ S := fun hz => by
  obtain ⟨c2, l2, h1, h2⟩ := hs z hz
  rw [h] at h1
  simp only [ob, Option.some.injEq, Sum.inr.injEq, Prod.mk.injEq] at h1
  omega
theorem CD0.keep {p lo : Nat} {v : Value} {S : List Nat} (h : CD0 f mj q b p v lo M) (hf : gm S M M') (hs : nC S M) : CD0 f mj q b p v lo M' := by
  rcases h with h | ⟨h0, z, h1, h2, h3, h4, h5⟩
  · exact Or.inl h
  · exact Or.inr ⟨h0, z, h1, h2, Nat.lt_of_lt_of_le h3 hf.2, (hf.1 z (by omega) (hs.out h4 (Or.inl rfl))).trans h4, (hf.1 (z + 1) h3 (hs.out h5 (Or.inr rfl))).trans h5⟩
theorem CD0.put {p lo a ci : Nat} {v : Value} {l : List Value} (h : CD0 f mj q b p v lo M) (ha : M.1 a = some (ob ci l)) (hc : ¬ ci = 4 ∧ ¬ ci = 5) (hf : ∀ z, z ≠ a → M'.1 z = M.1 z) (hz : M'.2 = M.2) : CD0 f mj q b p v lo M' :=
  h.keep (S := [a]) ⟨fun z _ h9 => hf z (fun e => h9 (by rw [e]; exact List.mem_cons_self)), by rw [hz]; exact Nat.le_refl _⟩ (nCc ha hc nCn)
theorem CD0.lo {p lo lo' : Nat} {v : Value} (h : CD0 f mj q b p v lo M) (hl : lo' ≤ lo) : CD0 f mj q b p v lo' M := by
  rcases h with h | ⟨h0, z, h1, h2, h3⟩
  · exact Or.inl h
  · exact Or.inr ⟨h0, z, h1, by omega, h3⟩
theorem CD0.of {p z lo : Nat} (h0 : ¬ p = 0) (h1 : lo ≤ z) (h2 : z + 1 < M.2.1) (h3 : M.1 z = some (cdc f mj q p z 0 .null .null)) (h4 : M.1 (z + 1) = some (inc f b p [.int 0, .int 0, .int 0, .int 0, .int 0, .int 0, .int 0, .int 0, .int 0])) : CD0 f mj q b p (.ref z) lo M := Or.inr ⟨h0, z, rfl, h1, h2, h3, h4⟩
/-- fields that have been looked at -/
def DF (f : Nat → Int32) (n : Nat) (E : List (Nat × Nat)) (B : List Nat) (G : Nat → Nat) (k : Nat) (M : mi_H) : Prop := ∀ i, i < k → i < B.length → G i < M.2.1 ∧ M.1 (G i) = some (mcell f (B.getD i 0) (nI (fK f n E (B.getD i 0)).1) (nI (fK f n E (B.getD i 0)).2) 0 0 .null)
/-- methods that have been looked at; their code lies below T -/
def DM (f : Nat → Int32) (n : Nat) (E : List (Nat × Nat)) (mj q b : Nat) (B : List Nat) (G : Nat → Nat) (k T : Nat) (M : mi_H) : Prop := ∃ Z : Nat → Nat, (∀ i j, i < j → j < k → j < B.length → ¬ (mK f n E (B.getD i 0)).2.1 = 0 → ¬ (mK f n E (B.getD j 0)).2.1 = 0 → Z i + 1 < Z j) ∧ (∀ i, i < k → i < B.length → ¬ (mK f n E (B.getD i 0)).2.1 = 0 → Z i + 1 < T) ∧ ∀ i, i < k → i < B.length → G i < M.2.1 ∧ ∃ v, M.1 (G i) = some (mcell f (B.getD i 0) (nI (mK f n E (B.getD i 0)).1) 0 (nI (apN f n E (B.getD i 0))) (nI (mK f n E (B.getD i 0)).2.2) v) ∧ CD0 f mj q b (mK f n E (B.getD i 0)).2.1 v 0 M ∧ (¬ (mK f n E (B.getD i 0)).2.1 = 0 → v = .ref (Z i))
/-- cells that are neither of code nor members looked at -/
def nD (k : Nat) (B : List Nat) (G : Nat → Nat) (S : List Nat) (M : mi_H) : Prop := ∀ z ∈ S, ∃ ci l, M.1 z = some (ob ci l) ∧ ¬ ci = 4 ∧ ¬ ci = 5 ∧ (ci = 6 → ∀ i, i < k → i < B.length → ¬ G i = z)
theorem nDn {k : Nat} {B : List Nat} {G : Nat → Nat} : nD k B G [] M := fun z hz => by cases hz
theorem nDc {k : Nat} {B : List Nat} {G : Nat → Nat} {S : List Nat} {z ci : Nat} {l : List Value} (h : M.1 z = some (ob ci l)) (hc : ¬ ci = 4 ∧ ¬ ci = 5 ∧ ¬ ci = 6) (hs : nD k B G S M) : nD k B G (z :: S) M := fun y hy => by
  rcases List.mem_cons.mp hy with rfl | hy
  · exact ⟨ci, l, h, hc.1, hc.2.1, fun e => absurd e hc.2.2⟩
  · exact hs y hy
theorem nDa {k : Nat} {B : List Nat} {G : Nat → Nat} {S : List Nat} {z : Nat} {l : List Value} (h : M.1 z = some (ob 6 l)) (ha : ∀ i, i < k → i < B.length → ¬ G i = z) (hs : nD k B G S M) : nD k B G (z :: S) M := fun y hy => by
  rcases List.mem_cons.mp hy with rfl | hy
  · exact ⟨6, l, h, by decide, by decide, fun _ => ha⟩
  · exact hs y hy
theorem nD.C {k : Nat} {B : List Nat} {G : Nat → Nat} {S : List Nat} (h : nD k B G S M) : nC S M := fun z hz => by
  obtain ⟨ci, l, h1, h2, h3, -⟩ := h z hz
  exact ⟨ci, l, h1, h2, h3⟩
theorem nD.out {k i : Nat} {B : List Nat} {G : Nat → Nat} {S : List Nat} {l : List Value} (h : nD k B G S M) (hi : i < k) (hb : i < B.length) (hc : M.1 (G i) = some (ob 6 l)) : ¬ G i ∈ S := fun hz => by
  obtain ⟨ci, l2, h1, -, -, h2⟩ := h _ hz
  rw [hc] at h1
  simp only [ob, Option.some.injEq, Sum.inr.injEq, Prod.mk.injEq] at h1
  exact h2 h1.1.symm i hi hb rfl
theorem DF.keep {B : List Nat} {G : Nat → Nat} {k : Nat} {S : List Nat} (h : DF f n E B G k M) (hf : gm S M M') (hs : nD k B G S M) : DF f n E B G k M' := fun i hi hb => by
  obtain ⟨h1, h2⟩ := h i hi hb
  exact ⟨Nat.lt_of_lt_of_le h1 hf.2, (hf.1 _ h1 (hs.out hi hb h2)).trans h2⟩
theorem DM.keep {B : List Nat} {G : Nat → Nat} {k T : Nat} {S : List Nat} (h : DM f n E mj q b B G k T M) (hf : gm S M M') (hs : nD k B G S M) : DM f n E mj q b B G k T M' := by
  obtain ⟨Z, h0, h9, h⟩ := h
  refine ⟨Z, h0, h9, fun i hi hb => ?_⟩
  obtain ⟨h1, v, h2, h3, h4⟩ := h i hi hb
  exact ⟨Nat.lt_of_lt_of_le h1 hf.2, v, (hf.1 _ h1 (hs.out hi hb h2)).trans h2, h3.keep hf hs.C, h4⟩
theorem DF.nil {B : List Nat} {G : Nat → Nat} : DF f n E B G 0 M := fun i hi => absurd hi (Nat.not_lt_zero i)
theorem DM.nil {B : List Nat} {G : Nat → Nat} {T : Nat} : DM f n E mj q b B G 0 T M := ⟨fun _ => 0, fun i j _ hj => absurd hj (Nat.not_lt_zero j), fun i hi => absurd hi (Nat.not_lt_zero i), fun i hi => absurd hi (Nat.not_lt_zero i)⟩
theorem DF.snoc {B : List Nat} {G : Nat → Nat} {k a : Nat} (h : DF f n E B G k M) (ha : G k = a) (hl : a < M.2.1) (hc : M.1 a = some (mcell f (B.getD k 0) (nI (fK f n E (B.getD k 0)).1) (nI (fK f n E (B.getD k 0)).2) 0 0 .null)) : DF f n E B G (k + 1) M := fun i hi hb => by
  by_cases e : i = k
  · subst e
    rw [ha]
    exact ⟨hl, hc⟩
  · exact h i (by omega) hb
theorem DM.snoc {B : List Nat} {G : Nat → Nat} {k a lo T T' : Nat} {v : Value} (h : DM f n E mj q b B G k T M) (ha : G k = a) (hl : a < M.2.1) (hc : M.1 a = some (mcell f (B.getD k 0) (nI (mK f n E (B.getD k 0)).1) 0 (nI (apN f n E (B.getD k 0))) (nI (mK f n E (B.getD k 0)).2.2) v)) (hd : CD0 f mj q b (mK f n E (B.getD k 0)).2.1 v lo M) (hT : T ≤ lo) (hTT : T ≤ T') (hT' : M.2.1 ≤ T') : DM f n E mj q b B G (k + 1) T' M := by
  obtain ⟨Z, h0, h9, h⟩ := h
  rcases hd with ⟨d0, d1⟩ | ⟨d0, z, d1, d2, d3, d4, d5⟩
  · refine ⟨Z, fun i j hij hj hb g1 g2 => ?_, fun i hi hb g => ?_, fun i hi hb => ?_⟩
    · by_cases e : j = k
      · subst e
        exact absurd d0 g2
      · exact h0 i j hij (by omega) hb g1 g2
    · by_cases e : i = k
      · subst e
        exact absurd d0 g
      · have := h9 i (by omega) hb g
        omega
    · by_cases e : i = k
      · subst e
        rw [ha]
        exact ⟨hl, v, hc, Or.inl ⟨d0, d1⟩, fun g => absurd d0 g⟩
      · exact h i (by omega) hb
  · refine ⟨fun i => if i = k then z else Z i, fun i j hij hj hb g1 g2 => ?_, fun i hi hb g => ?_, fun i hi hb => ?_⟩
    · dsimp only
      by_cases e : j = k
      · subst e
        rw [if_pos rfl, if_neg (by omega)]
        have := h9 i hij (by omega) g1
        omega
      · rw [if_neg e, if_neg (by omega)]
        exact h0 i j hij (by omega) hb g1 g2
    · dsimp only
      by_cases e : i = k
      · rw [if_pos e]
        omega
      · rw [if_neg e]
        have := h9 i (by omega) hb g
        omega
    · dsimp only
      by_cases e : i = k
      · subst e
        rw [ha]
        exact ⟨hl, v, hc, Or.inr ⟨d0, z, d1, Nat.zero_le _, d3, d4, d5⟩, fun _ => by rw [if_pos rfl]; exact d1⟩
      · rw [if_neg e]
        exact h i (by omega) hb
theorem DF.put {B : List Nat} {G : Nat → Nat} {k a ci : Nat} {l : List Value} (h : DF f n E B G k M) (ha : M.1 a = some (ob ci l)) (hc : ¬ ci = 4 ∧ ¬ ci = 5 ∧ ¬ ci = 6) (hf : ∀ z, z ≠ a → M'.1 z = M.1 z) (hz : M'.2 = M.2) : DF f n E B G k M' :=
  h.keep (S := [a]) ⟨fun z _ h9 => hf z (fun e => h9 (by rw [e]; exact List.mem_cons_self)), by rw [hz]; exact Nat.le_refl _⟩ (nDc ha hc nDn)
/-- all methods have been looked at -/
def DMe (f : Nat → Int32) (n : Nat) (E : List (Nat × Nat)) (mj q b : Nat) (B : List Nat) (G : Nat → Nat) (M : mi_H) : Prop := ∃ T, DM f n E mj q b B G B.length T M
theorem DMe.keep {B : List Nat} {G : Nat → Nat} {S : List Nat} (h : DMe f n E mj q b B G M) (hf : gm S M M') (hs : nD B.length B G S M) : DMe f n E mj q b B G M' := by
  obtain ⟨T, h⟩ := h
  exact ⟨T, h.keep hf hs⟩
theorem DMe.put {B : List Nat} {G : Nat → Nat} {a ci : Nat} {l : List Value} (h : DMe f n E mj q b B G M) (ha : M.1 a = some (ob ci l)) (hc : ¬ ci = 4 ∧ ¬ ci = 5 ∧ ¬ ci = 6) (hf : ∀ z, z ≠ a → M'.1 z = M.1 z) (hz : M'.2 = M.2) : DMe f n E mj q b B G M' :=
  h.keep (S := [a]) ⟨fun z _ h9 => hf z (fun e => h9 (by rw [e]; exact List.mem_cons_self)), by rw [hz]; exact Nat.le_refl _⟩ (nDc ha hc nDn)
/-- code that is kept -/
abbrev cdk (f : Nat → Int32) (mj q p z : Nat) (v8 v9 v10 : Value) : mi_C := ob 4 [.int (nI (by2 f (p + 6))), .int (nI (by2 f (p + 8))), .int (nI (by4 f (p + 10))), .int (nI (p + 14 + by4 f (p + 10) + 2)), .int (nI (by2 f (p + 14 + by4 f (p + 10)))), .ref q, .int (nI mj), .ref (z + 1), v8, v9, v10]
def CDk (f : Nat → Int32) (mj q p : Nat) (v : Value) (M : mi_H) : Prop := (p = 0 ∧ v = .null) ∨ (¬ p = 0 ∧ ∃ (z : Nat) (v8 v9 v10 : Value), v = .ref z ∧ z < M.2.1 ∧ M.1 z = some (cdk f mj q p z v8 v9 v10))
/-- methods that are kept -/
def DMk (f : Nat → Int32) (n : Nat) (E : List (Nat × Nat)) (mj q : Nat) (B : List Nat) (G : Nat → Nat) (M : mi_H) : Prop := ∀ i, i < B.length → G i < M.2.1 ∧ ∃ v, M.1 (G i) = some (mcell f (B.getD i 0) (nI (mK f n E (B.getD i 0)).1) 0 (nI (apN f n E (B.getD i 0))) (nI (mK f n E (B.getD i 0)).2.2) v) ∧ CDk f mj q (mK f n E (B.getD i 0)).2.1 v M
theorem DMe.k {B : List Nat} {G : Nat → Nat} (h : DMe f n E mj q b B G M) : DMk f n E mj q B G M := fun i hi => by
  obtain ⟨T, Z, -, -, h⟩ := h
  obtain ⟨h1, v, h2, h3, -⟩ := h i hi hi
  refine ⟨h1, v, h2, ?_⟩
  rcases h3 with h3 | ⟨g0, z, g1, g2, g3, g4, g5⟩
  · exact Or.inl h3
  · exact Or.inr ⟨g0, z, .int 0, .null, .null, g1, by omega, g4⟩
/-- codes keep their first eight fields -/
def H4 (M M' : mi_H) : Prop := ∀ z l, z < M.2.1 → M.1 z = some (ob 4 l) → l.length = 11 → ∃ l', M'.1 z = some (ob 4 l') ∧ l'.length = 11 ∧ l'.take 8 = l.take 8
theorem CDk.mov {p : Nat} {v : Value} (h : CDk f mj q p v M) (hz : M.2.1 ≤ M'.2.1) (h4 : H4 M M') : CDk f mj q p v M' := by
  rcases h with h | ⟨h0, z, v8, v9, v10, h1, h2, h3⟩
  · exact Or.inl h
  · obtain ⟨l', a1, a2, a3⟩ := h4 z _ h2 h3 rfl
    match l', a2, a3, a1 with
    | [b0, b1, b2, b3, b4, b5, b6, b7, b8, b9, b10], _, a3, a1 =>
      have e : [b0, b1, b2, b3, b4, b5, b6, b7] = [Value.int (nI (by2 f (p + 6))), .int (nI (by2 f (p + 8))), .int (nI (by4 f (p + 10))), .int (nI (p + 14 + by4 f (p + 10) + 2)), .int (nI (by2 f (p + 14 + by4 f (p + 10)))), .ref q, .int (nI mj), .ref (z + 1)] := a3
      simp only [List.cons.injEq, and_true] at e
      obtain ⟨rfl, rfl, rfl, rfl, rfl, rfl, rfl, rfl⟩ := e
      exact Or.inr ⟨h0, z, b8, b9, b10, h1, by omega, a1⟩
theorem DMk.mov3 {B : List Nat} {G : Nat → Nat} (h : DMk f n E mj q B G M) (hz : M.2.1 ≤ M'.2.1) (hm : ∀ z c', z < M.2.1 → M.1 z = some c' → (∀ o, c' = .inr o → o.1 = 6) → (∀ k F, c' ≠ ar .byte k F) → M'.1 z = some c') (h4 : H4 M M') : DMk f n E mj q B G M' := fun i hi => by
  obtain ⟨h1, v, h2, h3⟩ := h i hi
  exact ⟨by omega, v, hm _ _ h1 h2 (fun o h9 => by cases h9; rfl) (fun k F h9 => by cases h9), h3.mov hz h4⟩
theorem DF.mov3 {B : List Nat} {G : Nat → Nat} {k : Nat} (h : DF f n E B G k M) (hz : M.2.1 ≤ M'.2.1) (hm : ∀ z c', z < M.2.1 → M.1 z = some c' → (∀ o, c' = .inr o → o.1 = 6) → (∀ k F, c' ≠ ar .byte k F) → M'.1 z = some c') : DF f n E B G k M' := fun i hi hb => by
  obtain ⟨h1, h2⟩ := h i hi hb
  exact ⟨by omega, hm _ _ h1 h2 (fun o h9 => by cases h9; rfl) (fun k F h9 => by cases h9)⟩
theorem ob_411 {l l2 : List Value} : ¬ (ob 4 l = ob 11 l2) := fun e => by
  simp only [ob, Sum.inr.injEq, Prod.mk.injEq] at e
  exact absurd e.1 (by decide)
end MUC
set_option maxHeartbeats 1000000 in
theorem dk_inst7 {g : xe_G} {M : mi_H} {o5 b : Nat} {x1 x2 : Int32} (h_o5 : M.1 o5 = some (ob 5 [.null, .int 0, .int 0, .int 0, .int 0, .int 0, .int 0, .int 0, .int 0, .int 0, .int 0, .int 0]))  : pt (mT g) 86 [.ref o5, .ref b, .int x1, .int x2] M (fun v M' => (v = none ∧ M'.1 o5 = some (ob 5 [.ref b, .int x1, .int x2, .int 0, .int 0, .int 0, .int 0, .int 0, .int 0, .int 0, .int 0, .int 0]) ∧ fm [o5] M M')) := by
  refine pt_in (b := mb_86 g) rfl (fun kf => ?_)
  show pl (mT g) kf (mb_86 g).2 (0, [(0, .ref o5), (1, .ref b), (2, .int x1), (3, .int x2)], [], M) _
  have hF : fm [o5] M M := fm.rf
  refine ps_st (S' := (1, [(0, .ref o5), (1, .ref b), (2, .int x1), (3, .int x2)], [.ref o5], M)) rfl rfl rfl ?_
  refine ps_st (S' := (4, [(0, .ref o5), (1, .ref b), (2, .int x1), (3, .int x2)], [], M)) rfl rfl rfl ?_
  refine ps_st (S' := (5, [(0, .ref o5), (1, .ref b), (2, .int x1), (3, .int x2)], [.ref o5], M)) rfl rfl rfl ?_
  refine ps_st (S' := (6, [(0, .ref o5), (1, .ref b), (2, .int x1), (3, .int x2)], [.ref b, .ref o5], M)) rfl rfl rfl ?_
  refine ps_put (l' := [.ref b, .int 0, .int 0, .int 0, .int 0, .int 0, .int 0, .int 0, .int 0, .int 0, .int 0, .int 0]) rfl h_o5 rfl rfl (fun M1 h2 f3 z4 => ?_)
  have hF5 := hF.up (by simp) f3 z4
  show pl _ _ _ (9, [(0, .ref o5), (1, .ref b), (2, .int x1), (3, .int x2)], [], M1) _
  refine ps_st (S' := (10, [(0, .ref o5), (1, .ref b), (2, .int x1), (3, .int x2)], [.ref o5], M1)) rfl rfl rfl ?_
  refine ps_st (S' := (11, [(0, .ref o5), (1, .ref b), (2, .int x1), (3, .int x2)], [.int x1, .ref o5], M1)) rfl rfl rfl ?_
  refine ps_put (l' := [.ref b, .int x1, .int 0, .int 0, .int 0, .int 0, .int 0, .int 0, .int 0, .int 0, .int 0, .int 0]) rfl h2 rfl rfl (fun M6 h7 f8 z9 => ?_)
  have hF10 := hF5.up (by simp) f8 z9
  show pl _ _ _ (14, [(0, .ref o5), (1, .ref b), (2, .int x1), (3, .int x2)], [], M6) _
  refine ps_st (S' := (15, [(0, .ref o5), (1, .ref b), (2, .int x1), (3, .int x2)], [.ref o5], M6)) rfl rfl rfl ?_
  refine ps_st (S' := (16, [(0, .ref o5), (1, .ref b), (2, .int x1), (3, .int x2)], [.int x2, .ref o5], M6)) rfl rfl rfl ?_
  refine ps_put (l' := [.ref b, .int x1, .int x2, .int 0, .int 0, .int 0, .int 0, .int 0, .int 0, .int 0, .int 0, .int 0]) rfl h7 rfl rfl (fun M11 h12 f13 z14 => ?_)
  have hF15 := hF10.up (by simp) f13 z14
  show pl _ _ _ (19, [(0, .ref o5), (1, .ref b), (2, .int x1), (3, .int x2)], [], M11) _
  exact ps_ret rfl rfl (⟨rfl, h12, hF15⟩)
set_option maxHeartbeats 1000000 in
theorem dk_code7 {g : xe_G} {M : mi_H} {f : Nat → Int32} {n q c b da fr mr fa ic mj na pa cd0 p0 : Nat} {mi k1 k2 k3 k4 k5 k6 k7 : Int32} (h_cd0 : M.1 cd0 = some (ob 4 [.int 0, .int 0, .int 0, .int 0, .int 0, .null, .int 0, .null, .int 0, .null, .null])) (h_c : M.1 c = some (ob 3 [.ref b, .ref q, .int mi, .int (nI mj), .int (nI fa), .int (nI ic), .ref fr, .ref mr, .int (nI na), .int (nI pa), .int k1, .int k2, .int k3, .int k4, .int k5, .int k6, .int k7])) (h_b : M.1 b = some (ob 1 [.ref da])) (h_da : M.1 da = some (ar .byte n f)) (hn : n ≤ 65540) (hin : p0 + 8 + by4 f (p0 + 4) + 2 ≤ n) (l_cd0 : cd0 < M.2.1) (l_c : c < M.2.1) (l_b : b < M.2.1) (l_da : da < M.2.1) : pt (mT g) 74 [.ref cd0, .ref c, .int (nI p0)] M (fun v M' => (v = none ∧ M'.1 cd0 = some (ob 4 [.int (nI (by2 f p0)), .int (nI (by2 f (p0 + 2))), .int (nI (by4 f (p0 + 4))), .int (nI (p0 + 8 + by4 f (p0 + 4) + 2)), .int (nI (by2 f (p0 + 8 + by4 f (p0 + 4)))), .ref q, .int (nI mj), .ref (M.2.1), .int 0, .null, .null]) ∧ M'.1 (M.2.1) = some (ob 5 [.ref b, .int (nI (p0 + 8)), .int (nI (by4 f (p0 + 4))), .int 0, .int 0, .int 0, .int 0, .int 0, .int 0, .int 0, .int 0, .int 0]) ∧ gm [cd0] M M' ∧ M'.2.1 = M.2.1 + 1)) := by
  refine pt_in (b := mb_74 g) rfl (fun kf => ?_)
  show pl (mT g) kf (mb_74 g).2 (0, [(0, .ref cd0), (1, .ref c), (2, .int (nI p0))], [], M) _
  have hF : gm [cd0] M M := gm.rf
  obtain ⟨z0, tp0⟩ : ∃ z0, M.2.1 = z0 := ⟨_, rfl⟩
  refine ps_st (S' := (1, [(0, .ref cd0), (1, .ref c), (2, .int (nI p0))], [.ref cd0], M)) rfl rfl rfl ?_
  refine ps_st (S' := (4, [(0, .ref cd0), (1, .ref c), (2, .int (nI p0))], [], M)) rfl rfl rfl ?_
  refine ps_st (S' := (5, [(0, .ref cd0), (1, .ref c), (2, .int (nI p0))], [.ref c], M)) rfl rfl rfl ?_
  refine ps_get (S' := (8, [(0, .ref cd0), (1, .ref c), (2, .int (nI p0))], [.ref b], M)) rfl h_c rfl rfl ?_
  refine ps_st (S' := (9, [(3, .ref b), (0, .ref cd0), (1, .ref c), (2, .int (nI p0))], [], M)) rfl rfl rfl ?_
  refine ps_st (S' := (10, [(3, .ref b), (0, .ref cd0), (1, .ref c), (2, .int (nI p0))], [.ref cd0], M)) rfl rfl rfl ?_
  refine ps_st (S' := (11, [(3, .ref b), (0, .ref cd0), (1, .ref c), (2, .int (nI p0))], [.ref b, .ref cd0], M)) rfl rfl rfl ?_
  refine ps_st (S' := (12, [(3, .ref b), (0, .ref cd0), (1, .ref c), (2, .int (nI p0))], [.int (nI p0), .ref b, .ref cd0], M)) rfl rfl rfl ?_
  refine pl_call (a := [.ref b, .int (nI p0)]) (rest := [.ref cd0]) rfl rfl rfl (dk_u2 (f := f) (n := n) (b := b) (da := da) (p := p0) h_b h_da (hn) (by omega)) (fun v1 M2 q3 => ?_)
  obtain ⟨rfl, rfl⟩ := q3
  show pl _ _ _ (15, [(3, .ref b), (0, .ref cd0), (1, .ref c), (2, .int (nI p0))], [.int (nI (by2 f p0)), .ref cd0], M) _
  have hu_12 := by2_lt f p0
  refine ps_put (l' := [.int (nI (by2 f p0)), .int 0, .int 0, .int 0, .int 0, .null, .int 0, .null, .int 0, .null, .null]) rfl h_cd0 rfl rfl (fun M4 h5 f6 z7 => ?_)
  have h8 := (f6 c (ob_ne h_c h_cd0 (by decide))).trans h_c
  have h9 := (f6 b (ob_ne h_b h_cd0 (by decide))).trans h_b
  have h10 := (f6 da (Ne.symm (ob_ar h_cd0 h_da))).trans h_da
  have hF11 := hF.up (Or.inl (by simp)) f6 (by rw [z7]; exact Nat.le_refl _)
  have tp12 : M4.2.1 = z0 := by rw [z7]; exact tp0
  show pl _ _ _ (18, [(3, .ref b), (0, .ref cd0), (1, .ref c), (2, .int (nI p0))], [], M4) _
  refine ps_st (S' := (19, [(3, .ref b), (0, .ref cd0), (1, .ref c), (2, .int (nI p0))], [.ref cd0], M4)) rfl rfl rfl ?_
  refine ps_st (S' := (20, [(3, .ref b), (0, .ref cd0), (1, .ref c), (2, .int (nI p0))], [.ref b, .ref cd0], M4)) rfl rfl rfl ?_
  refine ps_st (S' := (21, [(3, .ref b), (0, .ref cd0), (1, .ref c), (2, .int (nI p0))], [.int (nI p0), .ref b, .ref cd0], M4)) rfl rfl rfl ?_
  refine ps_st (S' := (22, [(3, .ref b), (0, .ref cd0), (1, .ref c), (2, .int (nI p0))], [.int 2, .int (nI p0), .ref b, .ref cd0], M4)) rfl rfl rfl ?_
  refine ps_st (S' := (23, [(3, .ref b), (0, .ref cd0), (1, .ref c), (2, .int (nI p0))], [.int ((nI p0) + 2), .ref b, .ref cd0], M4)) rfl rfl rfl ?_
  rw [nI_add1 (p := p0) (k := 2) (x := 2) rfl (by omega)]
  show pl _ _ _ (_, [(3, .ref b), (0, .ref cd0), (1, .ref c), (2, .int (nI p0))], [.int (nI (p0 + 2)), .ref b, .ref cd0], M4) _
  refine pl_call (a := [.ref b, .int (nI (p0 + 2))]) (rest := [.ref cd0]) rfl rfl rfl (dk_u2 (f := f) (n := n) (b := b) (da := da) (p := (p0 + 2)) h9 h10 (hn) (by omega)) (fun v13 M14 q15 => ?_)
  obtain ⟨rfl, rfl⟩ := q15
  show pl _ _ _ (26, [(3, .ref b), (0, .ref cd0), (1, .ref c), (2, .int (nI p0))], [.int (nI (by2 f (p0 + 2))), .ref cd0], M4) _
  have hu_23 := by2_lt f (p0 + 2)
  refine ps_put (l' := [.int (nI (by2 f p0)), .int (nI (by2 f (p0 + 2))), .int 0, .int 0, .int 0, .null, .int 0, .null, .int 0, .null, .null]) rfl h5 rfl rfl (fun M16 h17 f18 z19 => ?_)
  have h20 := (f18 c (ob_ne h8 h5 (by decide))).trans h8
  have h21 := (f18 b (ob_ne h9 h5 (by decide))).trans h9
  have h22 := (f18 da (Ne.symm (ob_ar h5 h10))).trans h10
  have hF23 := hF11.up (Or.inl (by simp)) f18 (by rw [z19]; exact Nat.le_refl _)
  have tp24 : M16.2.1 = z0 := by rw [z19]; exact tp12
  show pl _ _ _ (29, [(3, .ref b), (0, .ref cd0), (1, .ref c), (2, .int (nI p0))], [], M16) _
  refine ps_st (S' := (30, [(3, .ref b), (0, .ref cd0), (1, .ref c), (2, .int (nI p0))], [.ref cd0], M16)) rfl rfl rfl ?_
  refine ps_st (S' := (31, [(3, .ref b), (0, .ref cd0), (1, .ref c), (2, .int (nI p0))], [.ref b, .ref cd0], M16)) rfl rfl rfl ?_
  refine ps_st (S' := (32, [(3, .ref b), (0, .ref cd0), (1, .ref c), (2, .int (nI p0))], [.int (nI p0), .ref b, .ref cd0], M16)) rfl rfl rfl ?_
  refine ps_st (S' := (33, [(3, .ref b), (0, .ref cd0), (1, .ref c), (2, .int (nI p0))], [.int 4, .int (nI p0), .ref b, .ref cd0], M16)) rfl rfl rfl ?_
  refine ps_st (S' := (34, [(3, .ref b), (0, .ref cd0), (1, .ref c), (2, .int (nI p0))], [.int ((nI p0) + 4), .ref b, .ref cd0], M16)) rfl rfl rfl ?_
  rw [nI_add1 (p := p0) (k := 4) (x := 4) rfl (by omega)]
  show pl _ _ _ (_, [(3, .ref b), (0, .ref cd0), (1, .ref c), (2, .int (nI p0))], [.int (nI (p0 + 4)), .ref b, .ref cd0], M16) _
  refine pl_call (a := [.ref b, .int (nI (p0 + 4))]) (rest := [.ref cd0]) rfl rfl rfl (dk_u4 (f := f) (n := n) (b := b) (da := da) (p := (p0 + 4)) h21 h22 (hn) (by omega)) (fun v25 M26 q27 => ?_)
  obtain ⟨rfl, rfl⟩ := q27
  show pl _ _ _ (37, [(3, .ref b), (0, .ref cd0), (1, .ref c), (2, .int (nI p0))], [.int (nI (by4 f (p0 + 4))), .ref cd0], M16) _
  have hu_34 := by4_lt f (p0 + 4)
  refine ps_put (l' := [.int (nI (by2 f p0)), .int (nI (by2 f (p0 + 2))), .int (nI (by4 f (p0 + 4))), .int 0, .int 0, .null, .int 0, .null, .int 0, .null, .null]) rfl h17 rfl rfl (fun M28 h29 f30 z31 => ?_)
  have h32 := (f30 c (ob_ne h20 h17 (by decide))).trans h20
  have h33 := (f30 b (ob_ne h21 h17 (by decide))).trans h21
  have h34 := (f30 da (Ne.symm (ob_ar h17 h22))).trans h22
  have hF35 := hF23.up (Or.inl (by simp)) f30 (by rw [z31]; exact Nat.le_refl _)
  have tp36 : M28.2.1 = z0 := by rw [z31]; exact tp24
  show pl _ _ _ (40, [(3, .ref b), (0, .ref cd0), (1, .ref c), (2, .int (nI p0))], [], M28) _
  refine ps_st (S' := (41, [(3, .ref b), (0, .ref cd0), (1, .ref c), (2, .int (nI p0))], [.ref cd0], M28)) rfl rfl rfl ?_
  refine ps_st (S' := (42, [(3, .ref b), (0, .ref cd0), (1, .ref c), (2, .int (nI p0))], [.int (nI p0), .ref cd0], M28)) rfl rfl rfl ?_
  refine ps_st (S' := (44, [(3, .ref b), (0, .ref cd0), (1, .ref c), (2, .int (nI p0))], [.int 8, .int (nI p0), .ref cd0], M28)) rfl rfl rfl ?_
  refine ps_st (S' := (45, [(3, .ref b), (0, .ref cd0), (1, .ref c), (2, .int (nI p0))], [.int ((nI p0) + 8), .ref cd0], M28)) rfl rfl rfl ?_
  rw [nI_add1 (p := p0) (k := 8) (x := 8) rfl (by omega)]
  show pl _ _ _ (_, [(3, .ref b), (0, .ref cd0), (1, .ref c), (2, .int (nI p0))], [.int (nI (p0 + 8)), .ref cd0], M28) _
  refine ps_st (S' := (46, [(3, .ref b), (0, .ref cd0), (1, .ref c), (2, .int (nI p0))], [.ref cd0, .int (nI (p0 + 8)), .ref cd0], M28)) rfl rfl rfl ?_
  refine ps_get (S' := (49, [(3, .ref b), (0, .ref cd0), (1, .ref c), (2, .int (nI p0))], [.int (nI (by4 f (p0 + 4))), .int (nI (p0 + 8)), .ref cd0], M28)) rfl h29 rfl rfl ?_
  refine ps_st (S' := (50, [(3, .ref b), (0, .ref cd0), (1, .ref c), (2, .int (nI p0))], [.int ((nI (p0 + 8)) + (nI (by4 f (p0 + 4)))), .ref cd0], M28)) rfl rfl rfl ?_
  rw [nI_add1 (p := p0 + 8) (k := by4 f (p0 + 4)) (x := (nI (by4 f (p0 + 4)))) rfl (by omega)]
  show pl _ _ _ (_, [(3, .ref b), (0, .ref cd0), (1, .ref c), (2, .int (nI p0))], [.int (nI (p0 + 8 + by4 f (p0 + 4))), .ref cd0], M28) _
  refine ps_st (S' := (51, [(3, .ref b), (0, .ref cd0), (1, .ref c), (2, .int (nI p0))], [.int 2, .int (nI (p0 + 8 + by4 f (p0 + 4))), .ref cd0], M28)) rfl rfl rfl ?_
  refine ps_st (S' := (52, [(3, .ref b), (0, .ref cd0), (1, .ref c), (2, .int (nI p0))], [.int ((nI (p0 + 8 + by4 f (p0 + 4))) + 2), .ref cd0], M28)) rfl rfl rfl ?_
  rw [nI_add1 (p := p0 + 8 + by4 f (p0 + 4)) (k := 2) (x := 2) rfl (by omega)]
  show pl _ _ _ (_, [(3, .ref b), (0, .ref cd0), (1, .ref c), (2, .int (nI p0))], [.int (nI (p0 + 8 + by4 f (p0 + 4) + 2)), .ref cd0], M28) _
  refine ps_put (l' := [.int (nI (by2 f p0)), .int (nI (by2 f (p0 + 2))), .int (nI (by4 f (p0 + 4))), .int (nI (p0 + 8 + by4 f (p0 + 4) + 2)), .int 0, .null, .int 0, .null, .int 0, .null, .null]) rfl h29 rfl rfl (fun M37 h38 f39 z40 => ?_)
  have h41 := (f39 c (ob_ne h32 h29 (by decide))).trans h32
  have h42 := (f39 b (ob_ne h33 h29 (by decide))).trans h33
  have h43 := (f39 da (Ne.symm (ob_ar h29 h34))).trans h34
  have hF44 := hF35.up (Or.inl (by simp)) f39 (by rw [z40]; exact Nat.le_refl _)
  have tp45 : M37.2.1 = z0 := by rw [z40]; exact tp36
  show pl _ _ _ (55, [(3, .ref b), (0, .ref cd0), (1, .ref c), (2, .int (nI p0))], [], M37) _
  refine ps_st (S' := (56, [(3, .ref b), (0, .ref cd0), (1, .ref c), (2, .int (nI p0))], [.ref cd0], M37)) rfl rfl rfl ?_
  refine ps_st (S' := (57, [(3, .ref b), (0, .ref cd0), (1, .ref c), (2, .int (nI p0))], [.ref b, .ref cd0], M37)) rfl rfl rfl ?_
  refine ps_st (S' := (58, [(3, .ref b), (0, .ref cd0), (1, .ref c), (2, .int (nI p0))], [.ref cd0, .ref b, .ref cd0], M37)) rfl rfl rfl ?_
  refine ps_get (S' := (61, [(3, .ref b), (0, .ref cd0), (1, .ref c), (2, .int (nI p0))], [.int (nI (p0 + 8 + by4 f (p0 + 4) + 2)), .ref b, .ref cd0], M37)) rfl h38 rfl rfl ?_
  refine ps_st (S' := (62, [(3, .ref b), (0, .ref cd0), (1, .ref c), (2, .int (nI p0))], [.int 2, .int (nI (p0 + 8 + by4 f (p0 + 4) + 2)), .ref b, .ref cd0], M37)) rfl rfl rfl ?_
  refine ps_st (S' := (63, [(3, .ref b), (0, .ref cd0), (1, .ref c), (2, .int (nI p0))], [.int ((nI (p0 + 8 + by4 f (p0 + 4) + 2)) - 2), .ref b, .ref cd0], M37)) rfl rfl rfl ?_
  rw [nI_sub1 (p := p0 + 8 + by4 f (p0 + 4) + 2) (k := 2) (x := 2) rfl (by omega) (by omega)]
  show pl _ _ _ (_, [(3, .ref b), (0, .ref cd0), (1, .ref c), (2, .int (nI p0))], [.int (nI ((p0 + 8 + by4 f (p0 + 4) + 2) - 2)), .ref b, .ref cd0], M37) _
  rw [Nat.add_sub_cancel]
  refine pl_call (a := [.ref b, .int (nI (p0 + 8 + by4 f (p0 + 4)))]) (rest := [.ref cd0]) rfl rfl rfl (dk_u2 (f := f) (n := n) (b := b) (da := da) (p := (p0 + 8 + by4 f (p0 + 4))) h42 h43 (hn) (by omega)) (fun v46 M47 q48 => ?_)
  obtain ⟨rfl, rfl⟩ := q48
  show pl _ _ _ (66, [(3, .ref b), (0, .ref cd0), (1, .ref c), (2, .int (nI p0))], [.int (nI (by2 f (p0 + 8 + by4 f (p0 + 4)))), .ref cd0], M37) _
  have hu_63 := by2_lt f (p0 + 8 + by4 f (p0 + 4))
  refine ps_put (l' := [.int (nI (by2 f p0)), .int (nI (by2 f (p0 + 2))), .int (nI (by4 f (p0 + 4))), .int (nI (p0 + 8 + by4 f (p0 + 4) + 2)), .int (nI (by2 f (p0 + 8 + by4 f (p0 + 4)))), .null, .int 0, .null, .int 0, .null, .null]) rfl h38 rfl rfl (fun M49 h50 f51 z52 => ?_)
  have h53 := (f51 c (ob_ne h41 h38 (by decide))).trans h41
  have h54 := (f51 b (ob_ne h42 h38 (by decide))).trans h42
  have h55 := (f51 da (Ne.symm (ob_ar h38 h43))).trans h43
  have hF56 := hF44.up (Or.inl (by simp)) f51 (by rw [z52]; exact Nat.le_refl _)
  have tp57 : M49.2.1 = z0 := by rw [z52]; exact tp45
  show pl _ _ _ (69, [(3, .ref b), (0, .ref cd0), (1, .ref c), (2, .int (nI p0))], [], M49) _
  refine ps_st (S' := (70, [(3, .ref b), (0, .ref cd0), (1, .ref c), (2, .int (nI p0))], [.ref cd0], M49)) rfl rfl rfl ?_
  refine ps_st (S' := (71, [(3, .ref b), (0, .ref cd0), (1, .ref c), (2, .int (nI p0))], [.ref c, .ref cd0], M49)) rfl rfl rfl ?_
  refine ps_get (S' := (74, [(3, .ref b), (0, .ref cd0), (1, .ref c), (2, .int (nI p0))], [.ref q, .ref cd0], M49)) rfl h53 rfl rfl ?_
  refine ps_put (l' := [.int (nI (by2 f p0)), .int (nI (by2 f (p0 + 2))), .int (nI (by4 f (p0 + 4))), .int (nI (p0 + 8 + by4 f (p0 + 4) + 2)), .int (nI (by2 f (p0 + 8 + by4 f (p0 + 4)))), .ref q, .int 0, .null, .int 0, .null, .null]) rfl h50 rfl rfl (fun M58 h59 f60 z61 => ?_)
  have h62 := (f60 c (ob_ne h53 h50 (by decide))).trans h53
  have h63 := (f60 b (ob_ne h54 h50 (by decide))).trans h54
  have h64 := (f60 da (Ne.symm (ob_ar h50 h55))).trans h55
  have hF65 := hF56.up (Or.inl (by simp)) f60 (by rw [z61]; exact Nat.le_refl _)
  have tp66 : M58.2.1 = z0 := by rw [z61]; exact tp57
  show pl _ _ _ (77, [(3, .ref b), (0, .ref cd0), (1, .ref c), (2, .int (nI p0))], [], M58) _
  refine ps_st (S' := (78, [(3, .ref b), (0, .ref cd0), (1, .ref c), (2, .int (nI p0))], [.ref cd0], M58)) rfl rfl rfl ?_
  refine ps_st (S' := (79, [(3, .ref b), (0, .ref cd0), (1, .ref c), (2, .int (nI p0))], [.ref c, .ref cd0], M58)) rfl rfl rfl ?_
  refine ps_get (S' := (82, [(3, .ref b), (0, .ref cd0), (1, .ref c), (2, .int (nI p0))], [.int (nI mj), .ref cd0], M58)) rfl h62 rfl rfl ?_
  refine ps_put (l' := [.int (nI (by2 f p0)), .int (nI (by2 f (p0 + 2))), .int (nI (by4 f (p0 + 4))), .int (nI (p0 + 8 + by4 f (p0 + 4) + 2)), .int (nI (by2 f (p0 + 8 + by4 f (p0 + 4)))), .ref q, .int (nI mj), .null, .int 0, .null, .null]) rfl h59 rfl rfl (fun M67 h68 f69 z70 => ?_)
  have h71 := (f69 c (ob_ne h62 h59 (by decide))).trans h62
  have h72 := (f69 b (ob_ne h63 h59 (by decide))).trans h63
  have h73 := (f69 da (Ne.symm (ob_ar h59 h64))).trans h64
  have hF74 := hF65.up (Or.inl (by simp)) f69 (by rw [z70]; exact Nat.le_refl _)
  have tp75 : M67.2.1 = z0 := by rw [z70]; exact tp66
  show pl _ _ _ (85, [(3, .ref b), (0, .ref cd0), (1, .ref c), (2, .int (nI p0))], [], M67) _
  refine ps_st (S' := (86, [(3, .ref b), (0, .ref cd0), (1, .ref c), (2, .int (nI p0))], [.ref cd0], M67)) rfl rfl rfl ?_
  refine ps_newz rfl tp75 (fun M76 h77 f78 tp79 => ?_)
  have h80 := (f78 cd0 (show cd0 ≠ z0 by omega)).trans h68
  have h81 := (f78 c (show c ≠ z0 by omega)).trans h71
  have h82 := (f78 b (show b ≠ z0 by omega)).trans h72
  have h83 := (f78 da (show da ≠ z0 by omega)).trans h73
  have hF84 := hF74.up (Or.inr (by omega)) f78 (by omega)
  show pl _ _ _ (89, [(3, .ref b), (0, .ref cd0), (1, .ref c), (2, .int (nI p0))], [.ref z0, .ref cd0], M76) _
  refine ps_st (S' := (90, [(3, .ref b), (0, .ref cd0), (1, .ref c), (2, .int (nI p0))], [.ref z0, .ref z0, .ref cd0], M76)) rfl rfl rfl ?_
  refine ps_st (S' := (91, [(3, .ref b), (0, .ref cd0), (1, .ref c), (2, .int (nI p0))], [.ref b, .ref z0, .ref z0, .ref cd0], M76)) rfl rfl rfl ?_
  refine ps_st (S' := (92, [(3, .ref b), (0, .ref cd0), (1, .ref c), (2, .int (nI p0))], [.int (nI p0), .ref b, .ref z0, .ref z0, .ref cd0], M76)) rfl rfl rfl ?_
  refine ps_st (S' := (94, [(3, .ref b), (0, .ref cd0), (1, .ref c), (2, .int (nI p0))], [.int 8, .int (nI p0), .ref b, .ref z0, .ref z0, .ref cd0], M76)) rfl rfl rfl ?_
  refine ps_st (S' := (95, [(3, .ref b), (0, .ref cd0), (1, .ref c), (2, .int (nI p0))], [.int ((nI p0) + 8), .ref b, .ref z0, .ref z0, .ref cd0], M76)) rfl rfl rfl ?_
  rw [nI_add1 (p := p0) (k := 8) (x := 8) rfl (by omega)]
  show pl _ _ _ (_, [(3, .ref b), (0, .ref cd0), (1, .ref c), (2, .int (nI p0))], [.int (nI (p0 + 8)), .ref b, .ref z0, .ref z0, .ref cd0], M76) _
  refine ps_st (S' := (96, [(3, .ref b), (0, .ref cd0), (1, .ref c), (2, .int (nI p0))], [.ref cd0, .int (nI (p0 + 8)), .ref b, .ref z0, .ref z0, .ref cd0], M76)) rfl rfl rfl ?_
  refine ps_get (S' := (99, [(3, .ref b), (0, .ref cd0), (1, .ref c), (2, .int (nI p0))], [.int (nI (by4 f (p0 + 4))), .int (nI (p0 + 8)), .ref b, .ref z0, .ref z0, .ref cd0], M76)) rfl h80 rfl rfl ?_
  refine pl_call (a := [.ref z0, .ref b, .int (nI (p0 + 8)), .int (nI (by4 f (p0 + 4)))]) (rest := [.ref z0, .ref cd0]) rfl rfl rfl (dk_inst7 (o5 := z0) (b := b) (x1 := (nI (p0 + 8))) (x2 := (nI (by4 f (p0 + 4)))) h77) (fun v85 M86 q87 => ?_)
  obtain ⟨rfl, h88, f89⟩ := q87
  have h91 := (f89.1 cd0 (nin1 (show cd0 ≠ z0 by omega))).trans h80
  have h92 := (f89.1 c (nin1 (show c ≠ z0 by omega))).trans h81
  have h93 := (f89.1 b (nin1 (show b ≠ z0 by omega))).trans h82
  have h94 := (f89.1 da (nin1 (show da ≠ z0 by omega))).trans h83
  have hF95 := hF84.trf f89 (by intro z hz; simp only [List.mem_cons, List.not_mem_nil, or_false] at hz ⊢; try omega)
  have tp96 : M86.2.1 = z0 + 1 := by rw [f89.2]; exact tp79
  show pl _ _ _ (102, [(3, .ref b), (0, .ref cd0), (1, .ref c), (2, .int (nI p0))], [.ref z0, .ref cd0], M86) _
  refine ps_put (l' := [.int (nI (by2 f p0)), .int (nI (by2 f (p0 + 2))), .int (nI (by4 f (p0 + 4))), .int (nI (p0 + 8 + by4 f (p0 + 4) + 2)), .int (nI (by2 f (p0 + 8 + by4 f (p0 + 4)))), .ref q, .int (nI mj), .ref z0, .int 0, .null, .null]) rfl h91 rfl rfl (fun M97 h98 f99 z100 => ?_)
  have h101 := (f99 c (ob_ne h92 h91 (by decide))).trans h92
  have h102 := (f99 b (ob_ne h93 h91 (by decide))).trans h93
  have h103 := (f99 da (Ne.symm (ob_ar h91 h94))).trans h94
  have h104 := (f99 z0 (show z0 ≠ cd0 by omega)).trans h88
  have hF105 := hF95.up (Or.inl (by simp)) f99 (by rw [z100]; exact Nat.le_refl _)
  have tp106 : M97.2.1 = z0 + 1 := by rw [z100]; exact tp96
  show pl _ _ _ (105, [(3, .ref b), (0, .ref cd0), (1, .ref c), (2, .int (nI p0))], [], M97) _
  refine ps_st (S' := (106, [(3, .ref b), (0, .ref cd0), (1, .ref c), (2, .int (nI p0))], [.ref cd0], M97)) rfl rfl rfl ?_
  refine ps_st (S' := (107, [(3, .ref b), (0, .ref cd0), (1, .ref c), (2, .int (nI p0))], [.int 0, .ref cd0], M97)) rfl rfl rfl ?_
  refine ps_put (l' := [.int (nI (by2 f p0)), .int (nI (by2 f (p0 + 2))), .int (nI (by4 f (p0 + 4))), .int (nI (p0 + 8 + by4 f (p0 + 4) + 2)), .int (nI (by2 f (p0 + 8 + by4 f (p0 + 4)))), .ref q, .int (nI mj), .ref z0, .int 0, .null, .null]) rfl h98 rfl rfl (fun M107 h108 f109 z110 => ?_)
  have h111 := (f109 c (ob_ne h101 h98 (by decide))).trans h101
  have h112 := (f109 b (ob_ne h102 h98 (by decide))).trans h102
  have h113 := (f109 da (Ne.symm (ob_ar h98 h103))).trans h103
  have h114 := (f109 z0 (show z0 ≠ cd0 by omega)).trans h104
  have hF115 := hF105.up (Or.inl (by simp)) f109 (by rw [z110]; exact Nat.le_refl _)
  have tp116 : M107.2.1 = z0 + 1 := by rw [z110]; exact tp106
  show pl _ _ _ (110, [(3, .ref b), (0, .ref cd0), (1, .ref c), (2, .int (nI p0))], [], M107) _
  exact ps_ret rfl rfl (⟨rfl, by rw [tp0]; exact h108, by rw [tp0]; exact h114, hF115, by rw [tp0]; exact tp116⟩)
set_option maxHeartbeats 1000000 in
theorem dk_codeHolds7 {g : xe_G} {M : mi_H} {f : Nat → Int32} {n N q : Nat} {E : List (Nat × Nat)} {ac c b da vd fr mr fa ic mj na pa : Nat} {mi ru wa k1 k2 k3 k4 k5 k6 k7 : Int32} {a b0 s w p e : Nat} {kn co ex : Int32} {cd : Value} (h_ac : M.1 ac = some (ob 0 [.ref c, .ref b, .ref q, .ref vd, .int (nI s)])) (h_b : M.1 b = some (ob 1 [.ref da])) (h_da : M.1 da = some (ar .byte n f)) (h_c : M.1 c = some (ob 3 [.ref b, .ref q, .int mi, .int (nI mj), .int (nI fa), .int (nI ic), .ref fr, .ref mr, .int (nI na), .int (nI pa), .int k1, .int k2, .int k3, .int k4, .int k5, .int k6, .int k7])) (h_vd : M.1 vd = some (ob 10 [.int ru, .int wa])) (h_a : M.1 a = some (ob 6 [.int (nI b0), .int (nI (by2 f b0)), .int (nI (by2 f (b0 + 2))), .int (nI (by2 f (b0 + 4))), .int (nI (by2 f (b0 + 6))), .int (nI (b0 + 8)), .int kn, .int co, .int (nI w), .int ex, cd])) (hn : n ≤ 65540) (hmj : mj < 65536) (hs : s < 2048) (hw : w < 100000) (he : e ≤ n) (hcd0 : s_cdE f e (p + 6) = some e) (hV : PV g f n N E q M) (l_ac : ac < M.2.1) (l_c : c < M.2.1) (l_b : b < M.2.1) (l_da : da < M.2.1) (l_vd : vd < M.2.1) (l_a : a < M.2.1) (l_q : q < M.2.1) : pt (mT g) 30 [.ref ac, .ref a, .int (nI p)] M (fun v M' => (∃ (e9 : Nat × Nat), (cdS f n E mj w p s = .inl e9) ∧ v = some (.int 0) ∧ M'.1 vd = some (ob 10 [.int (nI e9.1), .int (nI e9.2)]) ∧ gm [ac, vd, a] M M' ∧ M'.2.1 = M.2.1 + 2) ∨ (∃ (s' : Nat), (cdS f n E mj w p s = .inr s') ∧ (s' < 2048) ∧ v = some (.int 1) ∧ M'.1 ac = some (ob 0 [.ref c, .ref b, .ref q, .ref vd, .int (nI s')]) ∧ M'.1 vd = some (ob 10 [.int ru, .int wa]) ∧ M'.1 a = some (ob 6 [.int (nI b0), .int (nI (by2 f b0)), .int (nI (by2 f (b0 + 2))), .int (nI (by2 f (b0 + 4))), .int (nI (by2 f (b0 + 6))), .int (nI (b0 + 8)), .int kn, .int co, .int (nI w), .int ex, .ref (M.2.1)]) ∧ M'.1 (M.2.1) = some (ob 4 [.int (nI (by2 f (p + 6))), .int (nI (by2 f (p + 8))), .int (nI (by4 f (p + 10))), .int (nI (p + 14 + by4 f (p + 10) + 2)), .int (nI (by2 f (p + 14 + by4 f (p + 10)))), .ref q, .int (nI mj), .ref (M.2.1 + 1), .int 0, .null, .null]) ∧ M'.1 (M.2.1 + 1) = some (ob 5 [.ref b, .int (nI (p + 14)), .int (nI (by4 f (p + 10))), .int 0, .int 0, .int 0, .int 0, .int 0, .int 0, .int 0, .int 0, .int 0]) ∧ gm [ac, vd, a] M M' ∧ M'.2.1 = M.2.1 + 2)) := by
  refine pt_in (b := mb_30 g) rfl (fun kf => ?_)
  show pl (mT g) kf (mb_30 g).2 (0, [(0, .ref ac), (1, .ref a), (2, .int (nI p))], [], M) _
  have hF : gm [ac, vd, a] M M := gm.rf
  obtain ⟨z0, tp0⟩ : ∃ z0, M.2.1 = z0 := ⟨_, rfl⟩
  have hcd : p + 14 + by4 f (p + 10) + 2 + 8 * by2 f (p + 14 + by4 f (p + 10)) + 2 ≤ e ∧ True ∧ s_atE f e (by2 f (p + 14 + by4 f (p + 10) + 2 + 8 * by2 f (p + 14 + by4 f (p + 10)))) (p + 14 + by4 f (p + 10) + 2 + 8 * by2 f (p + 14 + by4 f (p + 10)) + 2) = some e := s_cdE_in hcd0
  have hw9 := by2_lt f (p + 14 + by4 f (p + 10))
  have LL : ∀ (kf : Nat), (∀ (i : Nat) (M1 : mi_H), (M1.1 ac = some (ob 0 [.ref c, .ref b, .ref q, .ref vd, .int (nI s)])) → (M1.1 b = some (ob 1 [.ref da])) → (M1.1 da = some (ar .byte n f)) → (M1.1 c = some (ob 3 [.ref b, .ref q, .int mi, .int (nI mj), .int (nI fa), .int (nI ic), .ref fr, .ref mr, .int (nI na), .int (nI pa), .int k1, .int k2, .int k3, .int k4, .int k5, .int k6, .int k7])) → (M1.1 vd = some (ob 10 [.int ru, .int wa])) → (M1.1 a = some (ob 6 [.int (nI b0), .int (nI (by2 f b0)), .int (nI (by2 f (b0 + 2))), .int (nI (by2 f (b0 + 4))), .int (nI (by2 f (b0 + 6))), .int (nI (b0 + 8)), .int kn, .int co, .int (nI w), .int ex, cd])) → (M1.1 z0 = some (ob 4 [.int (nI (by2 f (p + 6))), .int (nI (by2 f (p + 8))), .int (nI (by4 f (p + 10))), .int (nI (p + 14 + by4 f (p + 10) + 2)), .int (nI (by2 f (p + 14 + by4 f (p + 10)))), .ref q, .int (nI mj), .ref (z0 + 1), .int 0, .null, .null])) → (M1.1 (z0 + 1) = some (ob 5 [.ref b, .int (nI (p + 14)), .int (nI (by4 f (p + 10))), .int 0, .int 0, .int 0, .int 0, .int 0, .int 0, .int 0, .int 0, .int 0])) → (PV g f n N E q M1) → (gm [ac, vd, a] M M1) → (M1.2.1 = z0 + 2) → (i ≤ by2 f (p + 14 + by4 f (p + 10))) → (¬ (by4 f (p + 10) < 1 ∨ 65535 < by4 f (p + 10))) → (¬ by2 f (p + 8) < w) → (rwA f E (by4 f (p + 10)) (p + 14 + by4 f (p + 10) + 2) (by2 f (p + 14 + by4 f (p + 10)) - i) i = rwA f E (by4 f (p + 10)) (p + 14 + by4 f (p + 10) + 2) (by2 f (p + 14 + by4 f (p + 10))) 0) →  pl (mT g) kf (mb_30 g).2 (69, [(0, .ref ac), (1, .ref a), (2, .int (nI p)), (3, .ref z0), (4, .int (nI i))], [], M1) (fun v M' => (∃ (e9 : Nat × Nat), (cdS f n E mj w p s = .inl e9) ∧ v = some (.int 0) ∧ M'.1 vd = some (ob 10 [.int (nI e9.1), .int (nI e9.2)]) ∧ gm [ac, vd, a] M M' ∧ M'.2.1 = M.2.1 + 2) ∨ (∃ (s' : Nat), (cdS f n E mj w p s = .inr s') ∧ (s' < 2048) ∧ v = some (.int 1) ∧ M'.1 ac = some (ob 0 [.ref c, .ref b, .ref q, .ref vd, .int (nI s')]) ∧ M'.1 vd = some (ob 10 [.int ru, .int wa]) ∧ M'.1 a = some (ob 6 [.int (nI b0), .int (nI (by2 f b0)), .int (nI (by2 f (b0 + 2))), .int (nI (by2 f (b0 + 4))), .int (nI (by2 f (b0 + 6))), .int (nI (b0 + 8)), .int kn, .int co, .int (nI w), .int ex, .ref (M.2.1)]) ∧ M'.1 (M.2.1) = some (ob 4 [.int (nI (by2 f (p + 6))), .int (nI (by2 f (p + 8))), .int (nI (by4 f (p + 10))), .int (nI (p + 14 + by4 f (p + 10) + 2)), .int (nI (by2 f (p + 14 + by4 f (p + 10)))), .ref q, .int (nI mj), .ref (M.2.1 + 1), .int 0, .null, .null]) ∧ M'.1 (M.2.1 + 1) = some (ob 5 [.ref b, .int (nI (p + 14)), .int (nI (by4 f (p + 10))), .int 0, .int 0, .int 0, .int 0, .int 0, .int 0, .int 0, .int 0, .int 0]) ∧ gm [ac, vd, a] M M' ∧ M'.2.1 = M.2.1 + 2))) := by
    intro kf
    induction kf with
    | zero => exact (by intros; exact pl_0)
    | succ kf ih =>
      intro i M1 hl_ac hl_b hl_da hl_c hl_vd hl_a hl_z0 hl_z0___1 hV1 hF1 tp1 hi hj41 hj42 hr9
      have hu9 := by2_lt f (p + 14 + by4 f (p + 10))
      refine ps_st1 (S' := (71, [(0, .ref ac), (1, .ref a), (2, .int (nI p)), (3, .ref z0), (4, .int (nI i))], [.int (nI i)], M1)) rfl rfl rfl ?_
      refine ps_st (S' := (72, [(0, .ref ac), (1, .ref a), (2, .int (nI p)), (3, .ref z0), (4, .int (nI i))], [.ref z0, .int (nI i)], M1)) rfl rfl rfl ?_
      refine ps_get (S' := (75, [(0, .ref ac), (1, .ref a), (2, .int (nI p)), (3, .ref z0), (4, .int (nI i))], [.int (nI (by2 f (p + 14 + by4 f (p + 10)))), .int (nI i)], M1)) rfl hl_z0 rfl rfl ?_
      refine ps_if2 (S1 := (113, [(0, .ref ac), (1, .ref a), (2, .int (nI p)), (3, .ref z0), (4, .int (nI i))], [], M1)) (S2 := (78, [(0, .ref ac), (1, .ref a), (2, .int (nI p)), (3, .ref z0), (4, .int (nI i))], [], M1)) rfl rfl rfl (fun c_75 => ?_) (fun c_75 => ?_)
      · have c_75 : (nI (by2 f (p + 14 + by4 f (p + 10)))) ≤ (nI i) := of_decide_eq_true c_75
        have n_75 : by2 f (p + 14 + by4 f (p + 10)) ≤ i := (le_nI (p := by2 f (p + 14 + by4 f (p + 10))) (n := i) (Nat.lt_trans (by2_lt _ _) (by decide)) (by omega)).mp c_75
        refine ps_st (S' := (114, [(0, .ref ac), (1, .ref a), (2, .int (nI p)), (3, .ref z0), (4, .int (nI i))], [.ref a], M1)) rfl rfl rfl ?_
        refine ps_st (S' := (115, [(0, .ref ac), (1, .ref a), (2, .int (nI p)), (3, .ref z0), (4, .int (nI i))], [.ref z0, .ref a], M1)) rfl rfl rfl ?_
        refine ps_put (l' := [.int (nI b0), .int (nI (by2 f b0)), .int (nI (by2 f (b0 + 2))), .int (nI (by2 f (b0 + 4))), .int (nI (by2 f (b0 + 6))), .int (nI (b0 + 8)), .int kn, .int co, .int (nI w), .int ex, .ref z0]) rfl hl_a rfl rfl (fun M1 h2 f3 z4 => ?_)
        have h5 := (f3 ac (ob_ne hl_ac hl_a (by decide))).trans hl_ac
        have h6 := (f3 b (ob_ne hl_b hl_a (by decide))).trans hl_b
        have h7 := (f3 da (Ne.symm (ob_ar hl_a hl_da))).trans hl_da
        have h8 := (f3 c (ob_ne hl_c hl_a (by decide))).trans hl_c
        have h9 := (f3 vd (ob_ne hl_vd hl_a (by decide))).trans hl_vd
        have h10 := (f3 z0 (show z0 ≠ a by omega)).trans hl_z0
        have h11 := (f3 (z0 + 1) (show (z0 + 1) ≠ a by omega)).trans hl_z0___1
        have hV12 := hV1.put hl_a (by decide) f3 z4
        have hF13 := hF1.up (Or.inl (by simp)) f3 (by rw [z4]; exact Nat.le_refl _)
        have tp14 : M1.2.1 = z0 + 2 := by rw [z4]; exact tp1
        show pl _ _ _ (118, [(0, .ref ac), (1, .ref a), (2, .int (nI p)), (3, .ref z0), (4, .int (nI i))], [], M1) _
        refine ps_st (S' := (119, [(0, .ref ac), (1, .ref a), (2, .int (nI p)), (3, .ref z0), (4, .int (nI i))], [.ref ac], M1)) rfl rfl rfl ?_
        refine ps_st (S' := (120, [(0, .ref ac), (1, .ref a), (2, .int (nI p)), (3, .ref z0), (4, .int (nI i))], [.ref z0, .ref ac], M1)) rfl rfl rfl ?_
        refine ps_get (S' := (123, [(0, .ref ac), (1, .ref a), (2, .int (nI p)), (3, .ref z0), (4, .int (nI i))], [.int (nI (p + 14 + by4 f (p + 10) + 2)), .ref ac], M1)) rfl h10 rfl rfl ?_
        refine ps_st (S' := (125, [(0, .ref ac), (1, .ref a), (2, .int (nI p)), (3, .ref z0), (4, .int (nI i))], [.int 8, .int (nI (p + 14 + by4 f (p + 10) + 2)), .ref ac], M1)) rfl rfl rfl ?_
        refine ps_st (S' := (126, [(0, .ref ac), (1, .ref a), (2, .int (nI p)), (3, .ref z0), (4, .int (nI i))], [.ref z0, .int 8, .int (nI (p + 14 + by4 f (p + 10) + 2)), .ref ac], M1)) rfl rfl rfl ?_
        refine ps_get (S' := (129, [(0, .ref ac), (1, .ref a), (2, .int (nI p)), (3, .ref z0), (4, .int (nI i))], [.int (nI (by2 f (p + 14 + by4 f (p + 10)))), .int 8, .int (nI (p + 14 + by4 f (p + 10) + 2)), .ref ac], M1)) rfl h10 rfl rfl ?_
        refine ps_st (S' := (130, [(0, .ref ac), (1, .ref a), (2, .int (nI p)), (3, .ref z0), (4, .int (nI i))], [.int (8 * (nI (by2 f (p + 14 + by4 f (p + 10))))), .int (nI (p + 14 + by4 f (p + 10) + 2)), .ref ac], M1)) rfl rfl rfl ?_
        rw [nI_mul1 (p := 8) (k := by2 f (p + 14 + by4 f (p + 10))) (x := 8) (y := (nI (by2 f (p + 14 + by4 f (p + 10))))) rfl rfl (by omega)]
        show pl _ _ _ (_, [(0, .ref ac), (1, .ref a), (2, .int (nI p)), (3, .ref z0), (4, .int (nI i))], [.int (nI (8 * (by2 f (p + 14 + by4 f (p + 10))))), .int (nI (p + 14 + by4 f (p + 10) + 2)), .ref ac], M1) _
        refine ps_st (S' := (131, [(0, .ref ac), (1, .ref a), (2, .int (nI p)), (3, .ref z0), (4, .int (nI i))], [.int ((nI (p + 14 + by4 f (p + 10) + 2)) + (nI (8 * (by2 f (p + 14 + by4 f (p + 10)))))), .ref ac], M1)) rfl rfl rfl ?_
        rw [nI_add1 (p := p + 14 + by4 f (p + 10) + 2) (k := 8 * (by2 f (p + 14 + by4 f (p + 10)))) (x := (nI (8 * (by2 f (p + 14 + by4 f (p + 10)))))) rfl (by omega)]
        show pl _ _ _ (_, [(0, .ref ac), (1, .ref a), (2, .int (nI p)), (3, .ref z0), (4, .int (nI i))], [.int (nI (p + 14 + by4 f (p + 10) + 2 + 8 * (by2 f (p + 14 + by4 f (p + 10))))), .ref ac], M1) _
        refine pl_call (a := [.ref ac, .int (nI (p + 14 + by4 f (p + 10) + 2 + 8 * (by2 f (p + 14 + by4 f (p + 10)))))]) (rest := []) rfl rfl rfl (dk_codeAttributesHold (f := f) (n := n) (N := N) (q := q) (E := E) (ac := ac) (c := c) (b := b) (da := da) (vd := vd) (fr := fr) (mr := mr) (fa := fa) (ic := ic) (mj := mj) (na := na) (pa := pa) (mi := mi) (ru := ru) (wa := wa) (k1 := k1) (k2 := k2) (k3 := k3) (k4 := k4) (k5 := k5) (k6 := k6) (k7 := k7) (s := s) (p1 := (p + 14 + by4 f (p + 10) + 2 + 8 * (by2 f (p + 14 + by4 f (p + 10))))) (e := e) h5 h6 h7 h8 h9 (hn) (hmj) (by omega) (by omega) (hcd.2.2) (hV12)) (fun v15 M16 q17 => ?_)
        rcases q17 with q17 | q17
        · skip
          obtain ⟨e918, q131_s, rfl, h19, f20⟩ := q17
          have h22 := (f20.1 b (nin2 (ob_ne h6 h5 (by decide)) (ob_ne h6 h9 (by decide)))).trans h6
          have h23 := (f20.1 da (nin2 (Ne.symm (ob_ar h5 h7)) (Ne.symm (ob_ar h9 h7)))).trans h7
          have h24 := (f20.1 c (nin2 (ob_ne h8 h5 (by decide)) (ob_ne h8 h9 (by decide)))).trans h8
          have h25 := (f20.1 a (nin2 (ob_ne h2 h5 (by decide)) (ob_ne h2 h9 (by decide)))).trans h2
          have h26 := (f20.1 z0 (nin2 (show z0 ≠ ac by omega) (show z0 ≠ vd by omega))).trans h10
          have h27 := (f20.1 (z0 + 1) (nin2 (show (z0 + 1) ≠ ac by omega) (show (z0 + 1) ≠ vd by omega))).trans h11
          have hF28 := hF13.trf f20 (by intro z hz; simp only [List.mem_cons, List.not_mem_nil, or_false] at hz ⊢; try omega)
          have tp29 : M16.2.1 = z0 + 2 := by rw [f20.2]; exact tp14
          have hV30 := hV12.keep f20.gm (n7c h5 (by decide) (n7c h9 (by decide) (n7nil)))
          show pl _ _ _ (134, [(0, .ref ac), (1, .ref a), (2, .int (nI p)), (3, .ref z0), (4, .int (nI i))], [.int 0], M16) _
          exact ps_ret rfl rfl (Or.inl ⟨e918, by
              unfold cdS
              rw [if_neg hj41, if_neg hj42, if_neg (by rw [← hr9, show by2 f (p + 14 + by4 f (p + 10)) - i = 0 by omega]; exact Nat.one_ne_zero)]
              exact q131_s, rfl, h19, hF28, by rw [tp0]; exact tp29⟩)
        · skip
          obtain ⟨s'31, q131_s, q131_l, rfl, h32, h33, f34⟩ := q17
          have h36 := (f34.1 b (nin2 (ob_ne h6 h5 (by decide)) (ob_ne h6 h9 (by decide)))).trans h6
          have h37 := (f34.1 da (nin2 (Ne.symm (ob_ar h5 h7)) (Ne.symm (ob_ar h9 h7)))).trans h7
          have h38 := (f34.1 c (nin2 (ob_ne h8 h5 (by decide)) (ob_ne h8 h9 (by decide)))).trans h8
          have h39 := (f34.1 a (nin2 (ob_ne h2 h5 (by decide)) (ob_ne h2 h9 (by decide)))).trans h2
          have h40 := (f34.1 z0 (nin2 (show z0 ≠ ac by omega) (show z0 ≠ vd by omega))).trans h10
          have h41 := (f34.1 (z0 + 1) (nin2 (show (z0 + 1) ≠ ac by omega) (show (z0 + 1) ≠ vd by omega))).trans h11
          have hF42 := hF13.trf f34 (by intro z hz; simp only [List.mem_cons, List.not_mem_nil, or_false] at hz ⊢; try omega)
          have tp43 : M16.2.1 = z0 + 2 := by rw [f34.2]; exact tp14
          have hV44 := hV12.keep f34.gm (n7c h5 (by decide) (n7c h9 (by decide) (n7nil)))
          show pl _ _ _ (134, [(0, .ref ac), (1, .ref a), (2, .int (nI p)), (3, .ref z0), (4, .int (nI i))], [.int 1], M16) _
          exact ps_ret rfl rfl (Or.inr ⟨s'31, by
              unfold cdS
              rw [if_neg hj41, if_neg hj42, if_neg (by rw [← hr9, show by2 f (p + 14 + by4 f (p + 10)) - i = 0 by omega]; exact Nat.one_ne_zero)]
              exact q131_s, q131_l, rfl, h32, h33, by rw [tp0]; exact h39, by rw [tp0]; exact h40, by rw [tp0]; exact h41, hF42, by rw [tp0]; exact tp43⟩)
      · have c_75 : ¬ ((nI (by2 f (p + 14 + by4 f (p + 10)))) ≤ (nI i)) := of_decide_eq_false c_75
        have n_75 : ¬ (by2 f (p + 14 + by4 f (p + 10)) ≤ i) := fun h9 => c_75 ((le_nI (p := by2 f (p + 14 + by4 f (p + 10))) (n := i) (Nat.lt_trans (by2_lt _ _) (by decide)) (by omega)).mpr h9)
        refine ps_st (S' := (79, [(0, .ref ac), (1, .ref a), (2, .int (nI p)), (3, .ref z0), (4, .int (nI i))], [.ref ac], M1)) rfl rfl rfl ?_
        refine ps_st (S' := (80, [(0, .ref ac), (1, .ref a), (2, .int (nI p)), (3, .ref z0), (4, .int (nI i))], [.ref z0, .ref ac], M1)) rfl rfl rfl ?_
        refine ps_st (S' := (81, [(0, .ref ac), (1, .ref a), (2, .int (nI p)), (3, .ref z0), (4, .int (nI i))], [.ref z0, .ref z0, .ref ac], M1)) rfl rfl rfl ?_
        refine ps_get (S' := (84, [(0, .ref ac), (1, .ref a), (2, .int (nI p)), (3, .ref z0), (4, .int (nI i))], [.int (nI (p + 14 + by4 f (p + 10) + 2)), .ref z0, .ref ac], M1)) rfl hl_z0 rfl rfl ?_
        refine ps_st (S' := (86, [(0, .ref ac), (1, .ref a), (2, .int (nI p)), (3, .ref z0), (4, .int (nI i))], [.int 8, .int (nI (p + 14 + by4 f (p + 10) + 2)), .ref z0, .ref ac], M1)) rfl rfl rfl ?_
        refine ps_st (S' := (88, [(0, .ref ac), (1, .ref a), (2, .int (nI p)), (3, .ref z0), (4, .int (nI i))], [.int (nI i), .int 8, .int (nI (p + 14 + by4 f (p + 10) + 2)), .ref z0, .ref ac], M1)) rfl rfl rfl ?_
        refine ps_st (S' := (89, [(0, .ref ac), (1, .ref a), (2, .int (nI p)), (3, .ref z0), (4, .int (nI i))], [.int (8 * (nI i)), .int (nI (p + 14 + by4 f (p + 10) + 2)), .ref z0, .ref ac], M1)) rfl rfl rfl ?_
        rw [nI_mul1 (p := 8) (k := i) (x := 8) (y := (nI i)) rfl rfl (by omega)]
        show pl _ _ _ (_, [(0, .ref ac), (1, .ref a), (2, .int (nI p)), (3, .ref z0), (4, .int (nI i))], [.int (nI (8 * i)), .int (nI (p + 14 + by4 f (p + 10) + 2)), .ref z0, .ref ac], M1) _
        refine ps_st (S' := (90, [(0, .ref ac), (1, .ref a), (2, .int (nI p)), (3, .ref z0), (4, .int (nI i))], [.int ((nI (p + 14 + by4 f (p + 10) + 2)) + (nI (8 * i))), .ref z0, .ref ac], M1)) rfl rfl rfl ?_
        rw [nI_add1 (p := p + 14 + by4 f (p + 10) + 2) (k := 8 * i) (x := (nI (8 * i))) rfl (by omega)]
        show pl _ _ _ (_, [(0, .ref ac), (1, .ref a), (2, .int (nI p)), (3, .ref z0), (4, .int (nI i))], [.int (nI (p + 14 + by4 f (p + 10) + 2 + 8 * i)), .ref z0, .ref ac], M1) _
        refine pl_call (a := [.ref ac, .ref z0, .int (nI (p + 14 + by4 f (p + 10) + 2 + 8 * i))]) (rest := []) rfl rfl rfl (dk_rowHolds (f := f) (n := n) (N := N) (q := q) (E := E) (ac := ac) (c := c) (b := b) (da := da) (vd := vd) (fr := fr) (mr := mr) (fa := fa) (ic := ic) (mj := mj) (na := na) (pa := pa) (mi := mi) (ru := ru) (wa := wa) (s1 := (nI s)) (k1 := k1) (k2 := k2) (k3 := k3) (k4 := k4) (k5 := k5) (k6 := k6) (k7 := k7) (cd0 := z0) (p := (p + 14 + by4 f (p + 10) + 2 + 8 * i)) (len := (by4 f (p + 10))) (y1 := (nI (by2 f (p + 6)))) (y2 := (nI (by2 f (p + 8)))) (y3 := (nI (p + 14 + by4 f (p + 10) + 2))) (y4 := (nI (by2 f (p + 14 + by4 f (p + 10))))) (y6 := (nI mj)) (y8 := 0) (v5 := .ref q) (v7 := .ref (z0 + 1)) (v9 := .null) (v10 := .null) hl_ac hl_b hl_da hl_z0 (hn) (by omega) (by omega) (hV1)) (fun v45 M46 q47 => ?_)
        obtain ⟨rfl, rfl⟩ := q47
        show pl _ _ _ (93, [(0, .ref ac), (1, .ref a), (2, .int (nI p)), (3, .ref z0), (4, .int (nI i))], [.int (nI (rwN f E (by4 f (p + 10)) (p + 14 + by4 f (p + 10) + 2 + 8 * i)))], M1) _
        refine ps_if (S1 := (107, [(0, .ref ac), (1, .ref a), (2, .int (nI p)), (3, .ref z0), (4, .int (nI i))], [], M1)) (S2 := (96, [(0, .ref ac), (1, .ref a), (2, .int (nI p)), (3, .ref z0), (4, .int (nI i))], [], M1)) rfl rfl rfl (fun c_93 => ?_) (fun c_93 => ?_)
        · have c_93 : ¬ (nI (rwN f E (by4 f (p + 10)) (p + 14 + by4 f (p + 10) + 2 + 8 * i))) = 0 := of_decide_eq_true c_93
          have n_93 : ¬ (rwN f E (by4 f (p + 10)) (p + 14 + by4 f (p + 10) + 2 + 8 * i) = 0) := fun h9 => c_93 ((eq_nI (p := rwN f E (by4 f (p + 10)) (p + 14 + by4 f (p + 10) + 2 + 8 * i)) (n := 0) (Nat.lt_trans (le1_rw _ _ _ _) (by decide)) (by decide)).mpr h9)
          refine ps_st (S' := (110, [(4, .int ((nI i) + 1)), (0, .ref ac), (1, .ref a), (2, .int (nI p)), (3, .ref z0)], [], M1)) rfl rfl rfl ?_
          rw [nI_add1 (p := i) (k := 1) (x := 1) rfl (by omega)]
          show pl _ _ _ (_, [(4, .int (nI (i + 1))), (0, .ref ac), (1, .ref a), (2, .int (nI p)), (3, .ref z0)], [], M1) _
          refine ps_st (S' := (69, [(0, .ref ac), (1, .ref a), (2, .int (nI p)), (3, .ref z0), (4, .int (nI (i + 1)))], [], M1)) rfl rfl rfl ?_
          exact ih (i + 1) M1 hl_ac hl_b hl_da hl_c hl_vd hl_a hl_z0 hl_z0___1 hV1 hF1 (tp1) (by omega) (hj41) (hj42) (by
              rw [← hr9, rwA_st (i := i) (by omega), if_neg (by omega)])
        · have c_93 : ¬ (¬ (nI (rwN f E (by4 f (p + 10)) (p + 14 + by4 f (p + 10) + 2 + 8 * i))) = 0) := of_decide_eq_false c_93
          have n_93 : rwN f E (by4 f (p + 10)) (p + 14 + by4 f (p + 10) + 2 + 8 * i) = 0 := (eq_nI (p := rwN f E (by4 f (p + 10)) (p + 14 + by4 f (p + 10) + 2 + 8 * i)) (n := 0) (Nat.lt_trans (le1_rw _ _ _ _) (by decide)) (by decide)).mp (Decidable.not_not.mp c_93)
          refine ps_st (S' := (97, [(0, .ref ac), (1, .ref a), (2, .int (nI p)), (3, .ref z0), (4, .int (nI i))], [.ref ac], M1)) rfl rfl rfl ?_
          refine ps_get (S' := (100, [(0, .ref ac), (1, .ref a), (2, .int (nI p)), (3, .ref z0), (4, .int (nI i))], [.ref vd], M1)) rfl hl_ac rfl rfl ?_
          refine ps_st (S' := (102, [(0, .ref ac), (1, .ref a), (2, .int (nI p)), (3, .ref z0), (4, .int (nI i))], [.int 43, .ref vd], M1)) rfl rfl rfl ?_
          refine ps_st (S' := (103, [(0, .ref ac), (1, .ref a), (2, .int (nI p)), (3, .ref z0), (4, .int (nI i))], [.int (nI p), .int 43, .ref vd], M1)) rfl rfl rfl ?_
          refine pl_call (a := [.ref vd, .int 43, .int (nI p)]) (rest := []) rfl rfl rfl (dk_wrong (vd := vd) (ru := ru) (wa := wa) (x1 := 43) (x2 := (nI p)) hl_vd) (fun v48 M49 q50 => ?_)
          obtain ⟨rfl, h51, f52⟩ := q50
          have h54 := (f52.1 ac (nin1 (ob_ne hl_ac hl_vd (by decide)))).trans hl_ac
          have h55 := (f52.1 b (nin1 (ob_ne hl_b hl_vd (by decide)))).trans hl_b
          have h56 := (f52.1 da (nin1 (Ne.symm (ob_ar hl_vd hl_da)))).trans hl_da
          have h57 := (f52.1 c (nin1 (ob_ne hl_c hl_vd (by decide)))).trans hl_c
          have h58 := (f52.1 a (nin1 (ob_ne hl_a hl_vd (by decide)))).trans hl_a
          have h59 := (f52.1 z0 (nin1 (show z0 ≠ vd by omega))).trans hl_z0
          have h60 := (f52.1 (z0 + 1) (nin1 (show (z0 + 1) ≠ vd by omega))).trans hl_z0___1
          have hF61 := hF1.trf f52 (by intro z hz; simp only [List.mem_cons, List.not_mem_nil, or_false] at hz ⊢; try omega)
          have tp62 : M49.2.1 = z0 + 2 := by rw [f52.2]; exact tp1
          have hV63 := hV1.keep f52.gm (n7c hl_vd (by decide) (n7nil))
          show pl _ _ _ (106, [(0, .ref ac), (1, .ref a), (2, .int (nI p)), (3, .ref z0), (4, .int (nI i))], [.int 0], M49) _
          exact ps_ret rfl rfl (Or.inl ⟨(43, p), by
              unfold cdS
              rw [if_neg hj41, if_neg hj42, if_pos (by rw [← hr9, rwA_st (i := i) (by omega), if_pos (by omega)])], rfl, h51, hF61, by rw [tp0]; exact tp62⟩)
  refine ps_newz rfl tp0 (fun M64 h65 f66 tp67 => ?_)
  have h68 := (f66 ac (show ac ≠ z0 by omega)).trans h_ac
  have h69 := (f66 b (show b ≠ z0 by omega)).trans h_b
  have h70 := (f66 da (show da ≠ z0 by omega)).trans h_da
  have h71 := (f66 c (show c ≠ z0 by omega)).trans h_c
  have h72 := (f66 vd (show vd ≠ z0 by omega)).trans h_vd
  have h73 := (f66 a (show a ≠ z0 by omega)).trans h_a
  have hV74 := hV.new tp0 f66 tp67
  have hF75 := hF.up (Or.inr (by omega)) f66 (by omega)
  show pl _ _ _ (3, [(0, .ref ac), (1, .ref a), (2, .int (nI p))], [.ref z0], M64) _
  refine ps_st (S' := (4, [(0, .ref ac), (1, .ref a), (2, .int (nI p))], [.ref z0, .ref z0], M64)) rfl rfl rfl ?_
  refine ps_st (S' := (5, [(0, .ref ac), (1, .ref a), (2, .int (nI p))], [.ref ac, .ref z0, .ref z0], M64)) rfl rfl rfl ?_
  refine ps_get (S' := (8, [(0, .ref ac), (1, .ref a), (2, .int (nI p))], [.ref c, .ref z0, .ref z0], M64)) rfl h68 rfl rfl ?_
  refine ps_st (S' := (9, [(0, .ref ac), (1, .ref a), (2, .int (nI p))], [.int (nI p), .ref c, .ref z0, .ref z0], M64)) rfl rfl rfl ?_
  refine ps_st (S' := (11, [(0, .ref ac), (1, .ref a), (2, .int (nI p))], [.int 6, .int (nI p), .ref c, .ref z0, .ref z0], M64)) rfl rfl rfl ?_
  refine ps_st (S' := (12, [(0, .ref ac), (1, .ref a), (2, .int (nI p))], [.int ((nI p) + 6), .ref c, .ref z0, .ref z0], M64)) rfl rfl rfl ?_
  rw [nI_add1 (p := p) (k := 6) (x := 6) rfl (by omega)]
  show pl _ _ _ (_, [(0, .ref ac), (1, .ref a), (2, .int (nI p))], [.int (nI (p + 6)), .ref c, .ref z0, .ref z0], M64) _
  refine pl_call (a := [.ref z0, .ref c, .int (nI (p + 6))]) (rest := [.ref z0]) rfl rfl rfl (dk_code7 (f := f) (n := n) (q := q) (c := c) (b := b) (da := da) (fr := fr) (mr := mr) (fa := fa) (ic := ic) (mj := mj) (na := na) (pa := pa) (cd0 := z0) (p0 := (p + 6)) (mi := mi) (k1 := k1) (k2 := k2) (k3 := k3) (k4 := k4) (k5 := k5) (k6 := k6) (k7 := k7) h65 h71 h69 h70 (hn) (show p + 14 + by4 f (p + 10) + 2 ≤ n by omega) (by omega) (by omega) (by omega) (by omega)) (fun v76 M77 q78 => ?_)
  obtain ⟨rfl, h79, h80, f81, tp82⟩ := q78
  rw [tp67] at h79 h80 tp82
  have h83 := (f81.1 ac (by omega) (nin1 (show ac ≠ z0 by omega))).trans h68
  have h84 := (f81.1 b (by omega) (nin1 (show b ≠ z0 by omega))).trans h69
  have h85 := (f81.1 da (by omega) (nin1 (show da ≠ z0 by omega))).trans h70
  have h86 := (f81.1 c (by omega) (nin1 (show c ≠ z0 by omega))).trans h71
  have h87 := (f81.1 vd (by omega) (nin1 (show vd ≠ z0 by omega))).trans h72
  have h88 := (f81.1 a (by omega) (nin1 (show a ≠ z0 by omega))).trans h73
  have hF89 := hF75.tr f81 (by intro z hz; simp only [List.mem_cons, List.not_mem_nil, or_false] at hz ⊢; try omega)
  have hV90 := hV74.keep f81 (n7c h65 (by decide) (n7nil))
  show pl _ _ _ (15, [(0, .ref ac), (1, .ref a), (2, .int (nI p))], [.ref z0], M77) _
  refine ps_st (S' := (16, [(3, .ref z0), (0, .ref ac), (1, .ref a), (2, .int (nI p))], [], M77)) rfl rfl rfl ?_
  refine ps_st (S' := (17, [(3, .ref z0), (0, .ref ac), (1, .ref a), (2, .int (nI p))], [.ref z0], M77)) rfl rfl rfl ?_
  refine ps_get (S' := (20, [(3, .ref z0), (0, .ref ac), (1, .ref a), (2, .int (nI p))], [.int (nI (by4 f (p + 10)))], M77)) rfl h79 rfl rfl ?_
  refine ps_st (S' := (21, [(3, .ref z0), (0, .ref ac), (1, .ref a), (2, .int (nI p))], [.int 1, .int (nI (by4 f (p + 10)))], M77)) rfl rfl rfl ?_
  refine ps_if2 (S1 := (33, [(0, .ref ac), (2, .int (nI p))], [], M77)) (S2 := (24, [(3, .ref z0), (0, .ref ac), (1, .ref a), (2, .int (nI p))], [], M77)) rfl rfl rfl (fun c_21 => ?_) (fun c_21 => ?_)
  · have c_21 : (nI (by4 f (p + 10))) < 1 := of_decide_eq_true c_21
    have n_21 : by4 f (p + 10) < 1 := (lt_nI (p := by4 f (p + 10)) (n := 1) (by omega) (by decide)).mp c_21
    refine ps_st (S' := (34, [(0, .ref ac), (2, .int (nI p))], [.ref ac], M77)) rfl rfl rfl ?_
    refine ps_get (S' := (37, [(0, .ref ac), (2, .int (nI p))], [.ref vd], M77)) rfl h83 rfl rfl ?_
    refine ps_st (S' := (39, [(0, .ref ac), (2, .int (nI p))], [.int 41, .ref vd], M77)) rfl rfl rfl ?_
    refine ps_st (S' := (40, [(0, .ref ac), (2, .int (nI p))], [.int (nI p), .int 41, .ref vd], M77)) rfl rfl rfl ?_
    refine pl_call (a := [.ref vd, .int 41, .int (nI p)]) (rest := []) rfl rfl rfl (dk_wrong (vd := vd) (ru := ru) (wa := wa) (x1 := 41) (x2 := (nI p)) h87) (fun v91 M92 q93 => ?_)
    obtain ⟨rfl, h94, f95⟩ := q93
    have h97 := (f95.1 ac (nin1 (ob_ne h83 h87 (by decide)))).trans h83
    have h98 := (f95.1 b (nin1 (ob_ne h84 h87 (by decide)))).trans h84
    have h99 := (f95.1 da (nin1 (Ne.symm (ob_ar h87 h85)))).trans h85
    have h100 := (f95.1 c (nin1 (ob_ne h86 h87 (by decide)))).trans h86
    have h101 := (f95.1 a (nin1 (ob_ne h88 h87 (by decide)))).trans h88
    have h102 := (f95.1 z0 (nin1 (show z0 ≠ vd by omega))).trans h79
    have h103 := (f95.1 (z0 + 1) (nin1 (show (z0 + 1) ≠ vd by omega))).trans h80
    have hF104 := hF89.trf f95 (by intro z hz; simp only [List.mem_cons, List.not_mem_nil, or_false] at hz ⊢; try omega)
    have tp105 : M92.2.1 = z0 + 2 := by rw [f95.2]; exact tp82
    have hV106 := hV90.keep f95.gm (n7c h87 (by decide) (n7nil))
    show pl _ _ _ (43, [(0, .ref ac), (2, .int (nI p))], [.int 0], M92) _
    exact ps_ret rfl rfl (Or.inl ⟨(41, p), by
        unfold cdS
        first | ((repeat first | rw [if_pos (by omega)] | rw [if_neg (by omega)]) <;> first | rfl | omega) | ((repeat' split) <;> first | rfl | (exfalso; omega) | omega), rfl, h94, hF104, by rw [tp0]; exact tp105⟩)
  · have c_21 : ¬ ((nI (by4 f (p + 10))) < 1) := of_decide_eq_false c_21
    have n_21 : ¬ (by4 f (p + 10) < 1) := fun h9 => c_21 ((lt_nI (p := by4 f (p + 10)) (n := 1) (by omega) (by decide)).mpr h9)
    refine ps_st (S' := (25, [(3, .ref z0), (0, .ref ac), (1, .ref a), (2, .int (nI p))], [.ref z0], M77)) rfl rfl rfl ?_
    refine ps_get (S' := (28, [(3, .ref z0), (0, .ref ac), (1, .ref a), (2, .int (nI p))], [.int (nI (by4 f (p + 10)))], M77)) rfl h79 rfl rfl ?_
    refine ps_st (S' := (30, [(3, .ref z0), (0, .ref ac), (1, .ref a), (2, .int (nI p))], [.int 65535, .int (nI (by4 f (p + 10)))], M77)) rfl rfl rfl ?_
    refine ps_if2 (S1 := (44, [(3, .ref z0), (0, .ref ac), (1, .ref a), (2, .int (nI p))], [], M77)) (S2 := (33, [(0, .ref ac), (2, .int (nI p))], [], M77)) rfl rfl rfl (fun c_30 => ?_) (fun c_30 => ?_)
    · have c_30 : (nI (by4 f (p + 10))) ≤ 65535 := of_decide_eq_true c_30
      have n_30 : by4 f (p + 10) ≤ 65535 := (le_nI (p := by4 f (p + 10)) (n := 65535) (by omega) (by decide)).mp c_30
      refine ps_st (S' := (45, [(3, .ref z0), (0, .ref ac), (1, .ref a), (2, .int (nI p))], [.ref z0], M77)) rfl rfl rfl ?_
      refine ps_get (S' := (48, [(3, .ref z0), (0, .ref ac), (1, .ref a), (2, .int (nI p))], [.int (nI (by2 f (p + 8)))], M77)) rfl h79 rfl rfl ?_
      refine ps_st (S' := (49, [(3, .ref z0), (0, .ref ac), (1, .ref a), (2, .int (nI p))], [.ref a, .int (nI (by2 f (p + 8)))], M77)) rfl rfl rfl ?_
      refine ps_get (S' := (52, [(3, .ref z0), (0, .ref ac), (1, .ref a), (2, .int (nI p))], [.int (nI w), .int (nI (by2 f (p + 8)))], M77)) rfl h88 rfl rfl ?_
      refine ps_if2 (S1 := (66, [(3, .ref z0), (0, .ref ac), (1, .ref a), (2, .int (nI p))], [], M77)) (S2 := (55, [(3, .ref z0), (0, .ref ac), (1, .ref a), (2, .int (nI p))], [], M77)) rfl rfl rfl (fun c_52 => ?_) (fun c_52 => ?_)
      · have c_52 : (nI w) ≤ (nI (by2 f (p + 8))) := of_decide_eq_true c_52
        have n_52 : w ≤ by2 f (p + 8) := (le_nI (p := w) (n := by2 f (p + 8)) (by omega) (Nat.lt_trans (by2_lt _ _) (by decide))).mp c_52
        refine ps_st (S' := (67, [(3, .ref z0), (0, .ref ac), (1, .ref a), (2, .int (nI p))], [.int 0], M77)) rfl rfl rfl ?_
        refine ps_st (S' := (69, [(0, .ref ac), (1, .ref a), (2, .int (nI p)), (3, .ref z0), (4, .int 0)], [], M77)) rfl rfl rfl ?_
        exact (LL kf) (0) M77 h83 h84 h85 h86 h87 h88 h79 h80 hV90 hF89 (tp82) (by omega) (by omega) (by omega) (rfl)
      · have c_52 : ¬ ((nI w) ≤ (nI (by2 f (p + 8)))) := of_decide_eq_false c_52
        have n_52 : ¬ (w ≤ by2 f (p + 8)) := fun h9 => c_52 ((le_nI (p := w) (n := by2 f (p + 8)) (by omega) (Nat.lt_trans (by2_lt _ _) (by decide))).mpr h9)
        refine ps_st (S' := (56, [(3, .ref z0), (0, .ref ac), (1, .ref a), (2, .int (nI p))], [.ref ac], M77)) rfl rfl rfl ?_
        refine ps_get (S' := (59, [(3, .ref z0), (0, .ref ac), (1, .ref a), (2, .int (nI p))], [.ref vd], M77)) rfl h83 rfl rfl ?_
        refine ps_st (S' := (61, [(3, .ref z0), (0, .ref ac), (1, .ref a), (2, .int (nI p))], [.int 42, .ref vd], M77)) rfl rfl rfl ?_
        refine ps_st (S' := (62, [(3, .ref z0), (0, .ref ac), (1, .ref a), (2, .int (nI p))], [.int (nI p), .int 42, .ref vd], M77)) rfl rfl rfl ?_
        refine pl_call (a := [.ref vd, .int 42, .int (nI p)]) (rest := []) rfl rfl rfl (dk_wrong (vd := vd) (ru := ru) (wa := wa) (x1 := 42) (x2 := (nI p)) h87) (fun v107 M108 q109 => ?_)
        obtain ⟨rfl, h110, f111⟩ := q109
        have h113 := (f111.1 ac (nin1 (ob_ne h83 h87 (by decide)))).trans h83
        have h114 := (f111.1 b (nin1 (ob_ne h84 h87 (by decide)))).trans h84
        have h115 := (f111.1 da (nin1 (Ne.symm (ob_ar h87 h85)))).trans h85
        have h116 := (f111.1 c (nin1 (ob_ne h86 h87 (by decide)))).trans h86
        have h117 := (f111.1 a (nin1 (ob_ne h88 h87 (by decide)))).trans h88
        have h118 := (f111.1 z0 (nin1 (show z0 ≠ vd by omega))).trans h79
        have h119 := (f111.1 (z0 + 1) (nin1 (show (z0 + 1) ≠ vd by omega))).trans h80
        have hF120 := hF89.trf f111 (by intro z hz; simp only [List.mem_cons, List.not_mem_nil, or_false] at hz ⊢; try omega)
        have tp121 : M108.2.1 = z0 + 2 := by rw [f111.2]; exact tp82
        have hV122 := hV90.keep f111.gm (n7c h87 (by decide) (n7nil))
        show pl _ _ _ (65, [(3, .ref z0), (0, .ref ac), (1, .ref a), (2, .int (nI p))], [.int 0], M108) _
        exact ps_ret rfl rfl (Or.inl ⟨(42, p), by
            unfold cdS
            first | ((repeat first | rw [if_pos (by omega)] | rw [if_neg (by omega)]) <;> first | rfl | omega) | ((repeat' split) <;> first | rfl | (exfalso; omega) | omega), rfl, h110, hF120, by rw [tp0]; exact tp121⟩)
    · have c_30 : ¬ ((nI (by4 f (p + 10))) ≤ 65535) := of_decide_eq_false c_30
      have n_30 : ¬ (by4 f (p + 10) ≤ 65535) := fun h9 => c_30 ((le_nI (p := by4 f (p + 10)) (n := 65535) (by omega) (by decide)).mpr h9)
      refine ps_st (S' := (34, [(0, .ref ac), (2, .int (nI p))], [.ref ac], M77)) rfl rfl rfl ?_
      refine ps_get (S' := (37, [(0, .ref ac), (2, .int (nI p))], [.ref vd], M77)) rfl h83 rfl rfl ?_
      refine ps_st (S' := (39, [(0, .ref ac), (2, .int (nI p))], [.int 41, .ref vd], M77)) rfl rfl rfl ?_
      refine ps_st (S' := (40, [(0, .ref ac), (2, .int (nI p))], [.int (nI p), .int 41, .ref vd], M77)) rfl rfl rfl ?_
      refine pl_call (a := [.ref vd, .int 41, .int (nI p)]) (rest := []) rfl rfl rfl (dk_wrong (vd := vd) (ru := ru) (wa := wa) (x1 := 41) (x2 := (nI p)) h87) (fun v123 M124 q125 => ?_)
      obtain ⟨rfl, h126, f127⟩ := q125
      have h129 := (f127.1 ac (nin1 (ob_ne h83 h87 (by decide)))).trans h83
      have h130 := (f127.1 b (nin1 (ob_ne h84 h87 (by decide)))).trans h84
      have h131 := (f127.1 da (nin1 (Ne.symm (ob_ar h87 h85)))).trans h85
      have h132 := (f127.1 c (nin1 (ob_ne h86 h87 (by decide)))).trans h86
      have h133 := (f127.1 a (nin1 (ob_ne h88 h87 (by decide)))).trans h88
      have h134 := (f127.1 z0 (nin1 (show z0 ≠ vd by omega))).trans h79
      have h135 := (f127.1 (z0 + 1) (nin1 (show (z0 + 1) ≠ vd by omega))).trans h80
      have hF136 := hF89.trf f127 (by intro z hz; simp only [List.mem_cons, List.not_mem_nil, or_false] at hz ⊢; try omega)
      have tp137 : M124.2.1 = z0 + 2 := by rw [f127.2]; exact tp82
      have hV138 := hV90.keep f127.gm (n7c h87 (by decide) (n7nil))
      show pl _ _ _ (43, [(0, .ref ac), (2, .int (nI p))], [.int 0], M124) _
      exact ps_ret rfl rfl (Or.inl ⟨(41, p), by
          unfold cdS
          first | ((repeat first | rw [if_pos (by omega)] | rw [if_neg (by omega)]) <;> first | rfl | omega) | ((repeat' split) <;> first | rfl | (exfalso; omega) | omega), rfl, h126, hF136, by rw [tp0]; exact tp137⟩)
set_option maxHeartbeats 1000000 in
theorem dk_ofField7 {g : xe_G} {M : mi_H} {f : Nat → Int32} {n N q : Nat} {E : List (Nat × Nat)} {ac c b da vd fr mr fa ic mj na pa : Nat} {mi ru wa s1 k1 k2 k3 k4 k5 k6 k7 : Int32} {a b0 e0 : Nat} {kn ap ex : Int32} {cd : Value} (h_ac : M.1 ac = some (ob 0 [.ref c, .ref b, .ref q, .ref vd, .int s1])) (h_b : M.1 b = some (ob 1 [.ref da])) (h_da : M.1 da = some (ar .byte n f)) (h_c : M.1 c = some (ob 3 [.ref b, .ref q, .int mi, .int (nI mj), .int (nI fa), .int (nI ic), .ref fr, .ref mr, .int (nI na), .int (nI pa), .int k1, .int k2, .int k3, .int k4, .int k5, .int k6, .int k7])) (h_vd : M.1 vd = some (ob 10 [.int ru, .int wa])) (h_a : M.1 a = some (ob 6 [.int (nI b0), .int (nI (by2 f b0)), .int (nI (by2 f (b0 + 2))), .int (nI (by2 f (b0 + 4))), .int (nI (by2 f (b0 + 6))), .int (nI (b0 + 8)), .int kn, .int 0, .int ap, .int ex, cd])) (hn : n ≤ 65540) (hmj : mj < 65536) (hb1 : b0 + 8 ≤ n) (hat : s_atts f n (by2 f (b0 + 6)) (b0 + 8) = .inr e0) (hV : PV g f n N E q M) : pt (mT g) 39 [.ref ac, .ref a] M (fun v M' => (∃ (s2 : Int32) (K : Nat × Nat), (faS f n E (by2 f b0) (tX f n E (by2 f (b0 + 4))) (by2 f (b0 + 6)) (b0 + 8) 0 = none) ∧ (faU f n E (by2 f b0) (by2 f (b0 + 6)) (b0 + 8) (0, 0) = K) ∧ v = some (.int 1) ∧ M'.1 vd = some (ob 10 [.int ru, .int wa]) ∧ M'.1 ac = some (ob 0 [.ref c, .ref b, .ref q, .ref vd, .int s2]) ∧ M'.1 a = some (ob 6 [.int (nI b0), .int (nI (by2 f b0)), .int (nI (by2 f (b0 + 2))), .int (nI (by2 f (b0 + 4))), .int (nI (by2 f (b0 + 6))), .int (nI (b0 + 8)), .int (nI K.1), .int (nI K.2), .int ap, .int ex, cd]) ∧ fm [ac, vd, a] M M') ∨ (∃ (e9 : Nat × Nat), (faS f n E (by2 f b0) (tX f n E (by2 f (b0 + 4))) (by2 f (b0 + 6)) (b0 + 8) 0 = some e9) ∧ v = some (.int 0) ∧ M'.1 vd = some (ob 10 [.int (nI e9.1), .int (nI e9.2)]) ∧ fm [ac, vd, a] M M')) := by
  refine pt_in (b := mb_39 g) rfl (fun kf => ?_)
  show pl (mT g) kf (mb_39 g).2 (0, [(0, .ref ac), (1, .ref a)], [], M) _
  have hF : fm [ac, vd, a] M M := fm.rf
  have LL : ∀ (kf : Nat), (∀ (i p s2 : Nat) (K : Nat × Nat) (kn2 : Int32) (M1 : mi_H), (M1.1 ac = some (ob 0 [.ref c, .ref b, .ref q, .ref vd, .int (nI s2)])) → (M1.1 b = some (ob 1 [.ref da])) → (M1.1 da = some (ar .byte n f)) → (M1.1 c = some (ob 3 [.ref b, .ref q, .int mi, .int (nI mj), .int (nI fa), .int (nI ic), .ref fr, .ref mr, .int (nI na), .int (nI pa), .int k1, .int k2, .int k3, .int k4, .int k5, .int k6, .int k7])) → (M1.1 vd = some (ob 10 [.int ru, .int wa])) → (M1.1 a = some (ob 6 [.int (nI b0), .int (nI (by2 f b0)), .int (nI (by2 f (b0 + 2))), .int (nI (by2 f (b0 + 4))), .int (nI (by2 f (b0 + 6))), .int (nI (b0 + 8)), .int kn2, .int (nI K.2), .int ap, .int ex, cd])) → (PV g f n N E q M1) → (fm [ac, vd, a] M M1) → (i ≤ by2 f (b0 + 6)) → (s2 < 2048) → (s_atts f n (by2 f (b0 + 6) - i) p = .inr e0) → (faS f n E (by2 f b0) (tX f n E (by2 f (b0 + 4))) (by2 f (b0 + 6) - i) p s2 = faS f n E (by2 f b0) (tX f n E (by2 f (b0 + 4))) (by2 f (b0 + 6)) (b0 + 8) 0) → (faU f n E (by2 f b0) (by2 f (b0 + 6) - i) p K = faU f n E (by2 f b0) (by2 f (b0 + 6)) (b0 + 8) (0, 0)) → (popN s2 = K.1) →  pl (mT g) kf (mb_39 g).2 (12, [(0, .ref ac), (1, .ref a), (2, .int (nI p)), (3, .int (nI i))], [], M1) (fun v M' => (∃ (s2 : Int32) (K : Nat × Nat), (faS f n E (by2 f b0) (tX f n E (by2 f (b0 + 4))) (by2 f (b0 + 6)) (b0 + 8) 0 = none) ∧ (faU f n E (by2 f b0) (by2 f (b0 + 6)) (b0 + 8) (0, 0) = K) ∧ v = some (.int 1) ∧ M'.1 vd = some (ob 10 [.int ru, .int wa]) ∧ M'.1 ac = some (ob 0 [.ref c, .ref b, .ref q, .ref vd, .int s2]) ∧ M'.1 a = some (ob 6 [.int (nI b0), .int (nI (by2 f b0)), .int (nI (by2 f (b0 + 2))), .int (nI (by2 f (b0 + 4))), .int (nI (by2 f (b0 + 6))), .int (nI (b0 + 8)), .int (nI K.1), .int (nI K.2), .int ap, .int ex, cd]) ∧ fm [ac, vd, a] M M') ∨ (∃ (e9 : Nat × Nat), (faS f n E (by2 f b0) (tX f n E (by2 f (b0 + 4))) (by2 f (b0 + 6)) (b0 + 8) 0 = some e9) ∧ v = some (.int 0) ∧ M'.1 vd = some (ob 10 [.int (nI e9.1), .int (nI e9.2)]) ∧ fm [ac, vd, a] M M'))) := by
    intro kf
    induction kf with
    | zero => exact (by intros; exact pl_0)
    | succ kf ih =>
      intro i p s2 K kn2 M1 hl_ac hl_b hl_da hl_c hl_vd hl_a hV1 hF1 hi hl ha hs9 hu hpc
      have hu9 := by2_lt f (b0 + 6)
      refine ps_st1 (S' := (13, [(0, .ref ac), (1, .ref a), (2, .int (nI p)), (3, .int (nI i))], [.int (nI i)], M1)) rfl rfl rfl ?_
      refine ps_st (S' := (14, [(0, .ref ac), (1, .ref a), (2, .int (nI p)), (3, .int (nI i))], [.ref a, .int (nI i)], M1)) rfl rfl rfl ?_
      refine ps_get (S' := (17, [(0, .ref ac), (1, .ref a), (2, .int (nI p)), (3, .int (nI i))], [.int (nI (by2 f (b0 + 6))), .int (nI i)], M1)) rfl hl_a rfl rfl ?_
      refine ps_if2 (S1 := (173, [(0, .ref ac), (1, .ref a), (2, .int (nI p)), (3, .int (nI i))], [], M1)) (S2 := (20, [(0, .ref ac), (1, .ref a), (2, .int (nI p)), (3, .int (nI i))], [], M1)) rfl rfl rfl (fun c_17 => ?_) (fun c_17 => ?_)
      · have c_17 : (nI (by2 f (b0 + 6))) ≤ (nI i) := of_decide_eq_true c_17
        have n_17 : by2 f (b0 + 6) ≤ i := (le_nI (p := by2 f (b0 + 6)) (n := i) (Nat.lt_trans (by2_lt _ _) (by decide)) (by omega)).mp c_17
        refine ps_st (S' := (174, [(0, .ref ac), (1, .ref a), (2, .int (nI p)), (3, .int (nI i))], [.ref a], M1)) rfl rfl rfl ?_
        refine ps_st (S' := (175, [(0, .ref ac), (1, .ref a), (2, .int (nI p)), (3, .int (nI i))], [.ref ac, .ref a], M1)) rfl rfl rfl ?_
        refine ps_get (S' := (178, [(0, .ref ac), (1, .ref a), (2, .int (nI p)), (3, .int (nI i))], [.int (nI s2), .ref a], M1)) rfl hl_ac rfl rfl ?_
        refine pl_call (a := [.int (nI s2)]) (rest := [.ref a]) rfl rfl rfl (dk_bitCountN (y := s2) (by omega)) (fun v1 M2 q3 => ?_)
        obtain ⟨rfl, rfl⟩ := q3
        show pl _ _ _ (181, [(0, .ref ac), (1, .ref a), (2, .int (nI p)), (3, .int (nI i))], [.int (nI (popN s2)), .ref a], M1) _
        refine ps_put (l' := [.int (nI b0), .int (nI (by2 f b0)), .int (nI (by2 f (b0 + 2))), .int (nI (by2 f (b0 + 4))), .int (nI (by2 f (b0 + 6))), .int (nI (b0 + 8)), .int (nI (popN s2)), .int (nI K.2), .int ap, .int ex, cd]) rfl hl_a rfl rfl (fun M4 h5 f6 z7 => ?_)
        have h8 := (f6 ac (ob_ne hl_ac hl_a (by decide))).trans hl_ac
        have h9 := (f6 b (ob_ne hl_b hl_a (by decide))).trans hl_b
        have h10 := (f6 da (Ne.symm (ob_ar hl_a hl_da))).trans hl_da
        have h11 := (f6 c (ob_ne hl_c hl_a (by decide))).trans hl_c
        have h12 := (f6 vd (ob_ne hl_vd hl_a (by decide))).trans hl_vd
        have hV13 := hV1.put hl_a (by decide) f6 z7
        have hF14 := hF1.up (by simp) f6 z7
        show pl _ _ _ (184, [(0, .ref ac), (1, .ref a), (2, .int (nI p)), (3, .int (nI i))], [], M4) _
        refine ps_st (S' := (185, [(0, .ref ac), (1, .ref a), (2, .int (nI p)), (3, .int (nI i))], [.int 1], M4)) rfl rfl rfl ?_
        exact ps_ret rfl rfl (Or.inl ⟨_, K, by rw [← hs9, show by2 f (b0 + 6) - i = 0 by omega]; rfl, by rw [← hu, show by2 f (b0 + 6) - i = 0 by omega]; rfl, rfl, h12, h8, by rw [← hpc]; exact h5, hF14⟩)
      · have c_17 : ¬ ((nI (by2 f (b0 + 6))) ≤ (nI i)) := of_decide_eq_false c_17
        have n_17 : ¬ (by2 f (b0 + 6) ≤ i) := fun h9 => c_17 ((le_nI (p := by2 f (b0 + 6)) (n := i) (Nat.lt_trans (by2_lt _ _) (by decide)) (by omega)).mpr h9)
        obtain ⟨hq5, hq6, hq7⟩ := s_atts_in (i := i) (p := p) ha (by omega)
        refine ps_st (S' := (21, [(0, .ref ac), (1, .ref a), (2, .int (nI p)), (3, .int (nI i))], [.ref ac], M1)) rfl rfl rfl ?_
        refine ps_get (S' := (24, [(0, .ref ac), (1, .ref a), (2, .int (nI p)), (3, .int (nI i))], [.ref q], M1)) rfl hl_ac rfl rfl ?_
        refine ps_st (S' := (25, [(0, .ref ac), (1, .ref a), (2, .int (nI p)), (3, .int (nI i))], [.ref ac, .ref q], M1)) rfl rfl rfl ?_
        refine ps_get (S' := (28, [(0, .ref ac), (1, .ref a), (2, .int (nI p)), (3, .int (nI i))], [.ref b, .ref q], M1)) rfl hl_ac rfl rfl ?_
        refine ps_st (S' := (29, [(0, .ref ac), (1, .ref a), (2, .int (nI p)), (3, .int (nI i))], [.int (nI p), .ref b, .ref q], M1)) rfl rfl rfl ?_
        refine pl_call (a := [.ref b, .int (nI p)]) (rest := [.ref q]) rfl rfl rfl (dk_u2 (f := f) (n := n) (b := b) (da := da) (p := p) hl_b hl_da (hn) (by omega)) (fun v15 M16 q17 => ?_)
        obtain ⟨rfl, rfl⟩ := q17
        show pl _ _ _ (32, [(0, .ref ac), (1, .ref a), (2, .int (nI p)), (3, .int (nI i))], [.int (nI (by2 f p)), .ref q], M1) _
        have hu_29 := by2_lt f p
        refine ps_st (S' := (34, [(0, .ref ac), (1, .ref a), (2, .int (nI p)), (3, .int (nI i))], [.ref (g.2.1 0), .int (nI (by2 f p)), .ref q], M1)) rfl rfl rfl ?_
        refine pl_call (a := [.ref q, .int (nI (by2 f p)), .ref (g.2.1 0)]) (rest := []) rfl rfl rfl (dy_textIs (f := f) (n := n) (N := N) (q := q) (E := E) (j := (by2 f p)) (k := 0) (hV1) (by2_lt _ _) (by decide)) (fun v18 M19 q20 => ?_)
        obtain ⟨rfl, rfl⟩ := q20
        show pl _ _ _ (37, [(0, .ref ac), (1, .ref a), (2, .int (nI p)), (3, .int (nI i))], [.int (nI (eqN (tX f n E (by2 f p)) (ltx 0)))], M1) _
        refine ps_if (S1 := (44, [(0, .ref ac), (1, .ref a), (2, .int (nI p)), (3, .int (nI i))], [], M1)) (S2 := (40, [(0, .ref ac), (1, .ref a), (2, .int (nI p)), (3, .int (nI i))], [], M1)) rfl rfl rfl (fun c_37 => ?_) (fun c_37 => ?_)
        · have c_37 : (nI (eqN (tX f n E (by2 f p)) (ltx 0))) = 0 := of_decide_eq_true c_37
          have n_37 : eqN (tX f n E (by2 f p)) (ltx 0) = 0 := (eq_nI (p := eqN (tX f n E (by2 f p)) (ltx 0)) (n := 0) (Nat.lt_trans (le1_eq _ _) (by decide)) (by decide)).mp c_37
          refine ps_st (S' := (45, [(0, .ref ac), (1, .ref a), (2, .int (nI p)), (3, .int (nI i))], [.int 0], M1)) rfl rfl rfl ?_
          refine ps_st (S' := (47, [(4, .int 0), (0, .ref ac), (1, .ref a), (2, .int (nI p)), (3, .int (nI i))], [], M1)) rfl rfl rfl ?_
          refine ps_st (S' := (48, [(4, .int 0), (0, .ref ac), (1, .ref a), (2, .int (nI p)), (3, .int (nI i))], [.ref ac], M1)) rfl rfl rfl ?_
          refine ps_st (S' := (49, [(4, .int 0), (0, .ref ac), (1, .ref a), (2, .int (nI p)), (3, .int (nI i))], [.int (nI p), .ref ac], M1)) rfl rfl rfl ?_
          refine ps_st (S' := (51, [(4, .int 0), (0, .ref ac), (1, .ref a), (2, .int (nI p)), (3, .int (nI i))], [.int 0, .int (nI p), .ref ac], M1)) rfl rfl rfl ?_
          have hk9 : fkN f n E (by2 f p) = 0 := by
            unfold fkN
            first | ((repeat first | rw [if_pos (by omega)] | rw [if_neg (by omega)]) <;> first | rfl | omega) | ((repeat' split) <;> first | rfl | (exfalso; omega) | omega)
          refine pl_call (a := [.ref ac, .int (nI p), .int 0]) (rest := []) rfl rfl rfl (dk_isNew (f := f) (n := n) (N := N) (q := q) (E := E) (ac := ac) (c := c) (b := b) (da := da) (vd := vd) (fr := fr) (mr := mr) (fa := fa) (ic := ic) (mj := mj) (na := na) (pa := pa) (mi := mi) (ru := ru) (wa := wa) (k1 := k1) (k2 := k2) (k3 := k3) (k4 := k4) (k5 := k5) (k6 := k6) (k7 := k7) (s := s2) (k := 0) (p := p) hl_ac hl_b hl_da hl_vd (hn) (by omega) (by omega) (by omega) (hV1)) (fun v21 M22 q23 => ?_)
          rcases q23 with q23 | q23
          · skip
            obtain ⟨e24, q51_s, rfl, h25, f26⟩ := q23
            have h28 := (f26.1 b (nin2 (ob_ne hl_b hl_ac (by decide)) (ob_ne hl_b hl_vd (by decide)))).trans hl_b
            have h29 := (f26.1 da (nin2 (Ne.symm (ob_ar hl_ac hl_da)) (Ne.symm (ob_ar hl_vd hl_da)))).trans hl_da
            have h30 := (f26.1 c (nin2 (ob_ne hl_c hl_ac (by decide)) (ob_ne hl_c hl_vd (by decide)))).trans hl_c
            have h31 := (f26.1 a (nin2 (ob_ne hl_a hl_ac (by decide)) (ob_ne hl_a hl_vd (by decide)))).trans hl_a
            have hF32 := hF1.tr f26 (by simp)
            have hV33 := hV1.keep f26.gm (n7c hl_ac (by decide) (n7c hl_vd (by decide) (n7nil)))
            show pl _ _ _ (54, [(4, .int 0), (0, .ref ac), (1, .ref a), (2, .int (nI p)), (3, .int (nI i))], [.int 0], M22) _
            refine ps_if (S1 := (59, [(4, .int 0), (0, .ref ac), (1, .ref a), (2, .int (nI p)), (3, .int (nI i))], [], M22)) (S2 := (57, [(4, .int 0), (0, .ref ac), (1, .ref a), (2, .int (nI p)), (3, .int (nI i))], [], M22)) rfl rfl rfl (fun c_54 => ?_) (fun c_54 => ?_)
            · exact absurd (of_decide_eq_true c_54) (by decide)
            refine ps_st (S' := (58, [(4, .int 0), (0, .ref ac), (1, .ref a), (2, .int (nI p)), (3, .int (nI i))], [.int 0], M22)) rfl rfl rfl ?_
            exact ps_ret rfl rfl (Or.inr ⟨e24, by
                rw [← hs9, faS_st (i := i) (by omega), hk9, q51_s], rfl, h25, hF32⟩)
          · skip
            obtain ⟨s'34, q51_s, q51_l, rfl, h35, h36, f37⟩ := q23
            have h39 := (f37.1 b (nin2 (ob_ne hl_b hl_ac (by decide)) (ob_ne hl_b hl_vd (by decide)))).trans hl_b
            have h40 := (f37.1 da (nin2 (Ne.symm (ob_ar hl_ac hl_da)) (Ne.symm (ob_ar hl_vd hl_da)))).trans hl_da
            have h41 := (f37.1 c (nin2 (ob_ne hl_c hl_ac (by decide)) (ob_ne hl_c hl_vd (by decide)))).trans hl_c
            have h42 := (f37.1 a (nin2 (ob_ne hl_a hl_ac (by decide)) (ob_ne hl_a hl_vd (by decide)))).trans hl_a
            have hF43 := hF1.tr f37 (by simp)
            have hV44 := hV1.keep f37.gm (n7c hl_ac (by decide) (n7c hl_vd (by decide) (n7nil)))
            show pl _ _ _ (54, [(4, .int 0), (0, .ref ac), (1, .ref a), (2, .int (nI p)), (3, .int (nI i))], [.int 1], M22) _
            refine ps_if (S1 := (59, [(4, .int 0), (0, .ref ac), (1, .ref a), (2, .int (nI p)), (3, .int (nI i))], [], M22)) (S2 := (57, [(4, .int 0), (0, .ref ac), (1, .ref a), (2, .int (nI p)), (3, .int (nI i))], [], M22)) rfl rfl rfl (fun c_54 => ?_) (fun c_54 => ?_)
            rotate_left
            · exact absurd (by decide) (of_decide_eq_false c_54)
            refine ps_st (S' := (61, [(4, .int 0), (0, .ref ac), (1, .ref a), (2, .int (nI p)), (3, .int (nI i))], [.int 0], M22)) rfl rfl rfl ?_
            refine ps_if (S1 := (98, [(0, .ref ac), (1, .ref a), (2, .int (nI p)), (3, .int (nI i)), (4, .int 0)], [], M22)) (S2 := (64, [(4, .int 0), (0, .ref ac), (1, .ref a), (2, .int (nI p)), (3, .int (nI i))], [], M22)) rfl rfl rfl (fun c_61 => ?_) (fun c_61 => ?_)
            rotate_left
            · exact absurd (by decide) (of_decide_eq_false c_61)
            refine ps_st (S' := (100, [(0, .ref ac), (1, .ref a), (2, .int (nI p)), (3, .int (nI i)), (4, .int 0)], [.int 0], M22)) rfl rfl rfl ?_
            refine ps_st (S' := (101, [(0, .ref ac), (1, .ref a), (2, .int (nI p)), (3, .int (nI i)), (4, .int 0)], [.int 1, .int 0], M22)) rfl rfl rfl ?_
            refine ps_if2 (S1 := (161, [(0, .ref ac), (1, .ref a), (2, .int (nI p)), (3, .int (nI i))], [], M22)) (S2 := (104, [(0, .ref ac), (1, .ref a), (2, .int (nI p)), (3, .int (nI i)), (4, .int 0)], [], M22)) rfl rfl rfl (fun c_101 => ?_) (fun c_101 => ?_)
            rotate_left
            · exact absurd (by decide) (of_decide_eq_false c_101)
            refine ps_st (S' := (162, [(0, .ref ac), (1, .ref a), (2, .int (nI p)), (3, .int (nI i))], [.ref ac], M22)) rfl rfl rfl ?_
            refine ps_st (S' := (163, [(0, .ref ac), (1, .ref a), (2, .int (nI p)), (3, .int (nI i))], [.int (nI p), .ref ac], M22)) rfl rfl rfl ?_
            refine pl_call (a := [.ref ac, .int (nI p)]) (rest := []) rfl rfl rfl (dk_behind (f := f) (n := n) (q := q) (ac := ac) (c := c) (b := b) (da := da) (vd := vd) (s1 := (nI s'34)) (p := p) h35 h39 h40 (hn) (by omega)) (fun v45 M46 q47 => ?_)
            obtain ⟨rfl, rfl⟩ := q47
            show pl _ _ _ (166, [(0, .ref ac), (1, .ref a), (2, .int (nI p)), (3, .int (nI i))], [.int (nI (p + 6 + by4 f (p + 2)))], M22) _
            refine ps_st (S' := (167, [(2, .int (nI (p + 6 + by4 f (p + 2)))), (0, .ref ac), (1, .ref a), (3, .int (nI i))], [], M22)) rfl rfl rfl ?_
            refine ps_st (S' := (170, [(3, .int ((nI i) + 1)), (2, .int (nI (p + 6 + by4 f (p + 2)))), (0, .ref ac), (1, .ref a)], [], M22)) rfl rfl rfl ?_
            rw [nI_add1 (p := i) (k := 1) (x := 1) rfl (by omega)]
            show pl _ _ _ (_, [(3, .int (nI (i + 1))), (2, .int (nI (p + 6 + by4 f (p + 2)))), (0, .ref ac), (1, .ref a)], [], M22) _
            refine ps_st (S' := (12, [(0, .ref ac), (1, .ref a), (2, .int (nI (p + 6 + by4 f (p + 2)))), (3, .int (nI (i + 1)))], [], M22)) rfl rfl rfl ?_
            exact ih (i + 1) (p + 6 + by4 f (p + 2)) ((s'34)) (K) (kn2) M22 h35 h39 h40 h41 h36 h42 hV44 hF43 (by omega) (q51_l) (hq7) (by
                rw [← hs9, faS_st (i := i) (by omega), hk9, q51_s]
                dsimp only
                rw [if_neg (fun h => h.1 rfl), if_neg (fun h => h.1 rfl)]) (by
                rw [← hu, faU_st (i := i) (p := p) (by omega), hk9, stF_0]) (by
                rw [nw_pop q51_s (by decide), hpc]
                rfl)
        · have c_37 : ¬ ((nI (eqN (tX f n E (by2 f p)) (ltx 0))) = 0) := of_decide_eq_false c_37
          have n_37 : ¬ (eqN (tX f n E (by2 f p)) (ltx 0) = 0) := fun h9 => c_37 ((eq_nI (p := eqN (tX f n E (by2 f p)) (ltx 0)) (n := 0) (Nat.lt_trans (le1_eq _ _) (by decide)) (by decide)).mpr h9)
          refine ps_st (S' := (41, [(0, .ref ac), (1, .ref a), (2, .int (nI p)), (3, .int (nI i))], [.int 1], M1)) rfl rfl rfl ?_
          refine ps_st (S' := (45, [(0, .ref ac), (1, .ref a), (2, .int (nI p)), (3, .int (nI i))], [.int 1], M1)) rfl rfl rfl ?_
          refine ps_st (S' := (47, [(4, .int 1), (0, .ref ac), (1, .ref a), (2, .int (nI p)), (3, .int (nI i))], [], M1)) rfl rfl rfl ?_
          refine ps_st (S' := (48, [(4, .int 1), (0, .ref ac), (1, .ref a), (2, .int (nI p)), (3, .int (nI i))], [.ref ac], M1)) rfl rfl rfl ?_
          refine ps_st (S' := (49, [(4, .int 1), (0, .ref ac), (1, .ref a), (2, .int (nI p)), (3, .int (nI i))], [.int (nI p), .ref ac], M1)) rfl rfl rfl ?_
          refine ps_st (S' := (51, [(4, .int 1), (0, .ref ac), (1, .ref a), (2, .int (nI p)), (3, .int (nI i))], [.int 1, .int (nI p), .ref ac], M1)) rfl rfl rfl ?_
          have hk9 : fkN f n E (by2 f p) = 1 := by
            unfold fkN
            first | ((repeat first | rw [if_pos (by omega)] | rw [if_neg (by omega)]) <;> first | rfl | omega) | ((repeat' split) <;> first | rfl | (exfalso; omega) | omega)
          refine pl_call (a := [.ref ac, .int (nI p), .int 1]) (rest := []) rfl rfl rfl (dk_isNew (f := f) (n := n) (N := N) (q := q) (E := E) (ac := ac) (c := c) (b := b) (da := da) (vd := vd) (fr := fr) (mr := mr) (fa := fa) (ic := ic) (mj := mj) (na := na) (pa := pa) (mi := mi) (ru := ru) (wa := wa) (k1 := k1) (k2 := k2) (k3 := k3) (k4 := k4) (k5 := k5) (k6 := k6) (k7 := k7) (s := s2) (k := 1) (p := p) hl_ac hl_b hl_da hl_vd (hn) (by omega) (by omega) (by omega) (hV1)) (fun v48 M49 q50 => ?_)
          rcases q50 with q50 | q50
          · skip
            obtain ⟨e51, q51_s, rfl, h52, f53⟩ := q50
            have h55 := (f53.1 b (nin2 (ob_ne hl_b hl_ac (by decide)) (ob_ne hl_b hl_vd (by decide)))).trans hl_b
            have h56 := (f53.1 da (nin2 (Ne.symm (ob_ar hl_ac hl_da)) (Ne.symm (ob_ar hl_vd hl_da)))).trans hl_da
            have h57 := (f53.1 c (nin2 (ob_ne hl_c hl_ac (by decide)) (ob_ne hl_c hl_vd (by decide)))).trans hl_c
            have h58 := (f53.1 a (nin2 (ob_ne hl_a hl_ac (by decide)) (ob_ne hl_a hl_vd (by decide)))).trans hl_a
            have hF59 := hF1.tr f53 (by simp)
            have hV60 := hV1.keep f53.gm (n7c hl_ac (by decide) (n7c hl_vd (by decide) (n7nil)))
            show pl _ _ _ (54, [(4, .int 1), (0, .ref ac), (1, .ref a), (2, .int (nI p)), (3, .int (nI i))], [.int 0], M49) _
            refine ps_if (S1 := (59, [(4, .int 1), (0, .ref ac), (1, .ref a), (2, .int (nI p)), (3, .int (nI i))], [], M49)) (S2 := (57, [(4, .int 1), (0, .ref ac), (1, .ref a), (2, .int (nI p)), (3, .int (nI i))], [], M49)) rfl rfl rfl (fun c_54 => ?_) (fun c_54 => ?_)
            · exact absurd (of_decide_eq_true c_54) (by decide)
            refine ps_st (S' := (58, [(4, .int 1), (0, .ref ac), (1, .ref a), (2, .int (nI p)), (3, .int (nI i))], [.int 0], M49)) rfl rfl rfl ?_
            exact ps_ret rfl rfl (Or.inr ⟨e51, by
                rw [← hs9, faS_st (i := i) (by omega), hk9, q51_s], rfl, h52, hF59⟩)
          · skip
            obtain ⟨s'61, q51_s, q51_l, rfl, h62, h63, f64⟩ := q50
            have h66 := (f64.1 b (nin2 (ob_ne hl_b hl_ac (by decide)) (ob_ne hl_b hl_vd (by decide)))).trans hl_b
            have h67 := (f64.1 da (nin2 (Ne.symm (ob_ar hl_ac hl_da)) (Ne.symm (ob_ar hl_vd hl_da)))).trans hl_da
            have h68 := (f64.1 c (nin2 (ob_ne hl_c hl_ac (by decide)) (ob_ne hl_c hl_vd (by decide)))).trans hl_c
            have h69 := (f64.1 a (nin2 (ob_ne hl_a hl_ac (by decide)) (ob_ne hl_a hl_vd (by decide)))).trans hl_a
            have hF70 := hF1.tr f64 (by simp)
            have hV71 := hV1.keep f64.gm (n7c hl_ac (by decide) (n7c hl_vd (by decide) (n7nil)))
            show pl _ _ _ (54, [(4, .int 1), (0, .ref ac), (1, .ref a), (2, .int (nI p)), (3, .int (nI i))], [.int 1], M49) _
            refine ps_if (S1 := (59, [(4, .int 1), (0, .ref ac), (1, .ref a), (2, .int (nI p)), (3, .int (nI i))], [], M49)) (S2 := (57, [(4, .int 1), (0, .ref ac), (1, .ref a), (2, .int (nI p)), (3, .int (nI i))], [], M49)) rfl rfl rfl (fun c_54 => ?_) (fun c_54 => ?_)
            rotate_left
            · exact absurd (by decide) (of_decide_eq_false c_54)
            refine ps_st (S' := (61, [(4, .int 1), (0, .ref ac), (1, .ref a), (2, .int (nI p)), (3, .int (nI i))], [.int 1], M49)) rfl rfl rfl ?_
            refine ps_if (S1 := (98, [(0, .ref ac), (1, .ref a), (2, .int (nI p)), (3, .int (nI i)), (4, .int 1)], [], M49)) (S2 := (64, [(4, .int 1), (0, .ref ac), (1, .ref a), (2, .int (nI p)), (3, .int (nI i))], [], M49)) rfl rfl rfl (fun c_61 => ?_) (fun c_61 => ?_)
            · exact absurd (of_decide_eq_true c_61) (by decide)
            refine ps_st (S' := (65, [(4, .int 1), (0, .ref ac), (1, .ref a), (2, .int (nI p)), (3, .int (nI i))], [.ref ac], M49)) rfl rfl rfl ?_
            refine ps_st (S' := (67, [(4, .int 1), (0, .ref ac), (1, .ref a), (2, .int (nI p)), (3, .int (nI i))], [.int 1, .ref ac], M49)) rfl rfl rfl ?_
            refine ps_st (S' := (68, [(4, .int 1), (0, .ref ac), (1, .ref a), (2, .int (nI p)), (3, .int (nI i))], [.int (nI p), .int 1, .ref ac], M49)) rfl rfl rfl ?_
            refine ps_st (S' := (70, [(4, .int 1), (0, .ref ac), (1, .ref a), (2, .int (nI p)), (3, .int (nI i))], [.int 6, .int (nI p), .int 1, .ref ac], M49)) rfl rfl rfl ?_
            refine ps_st (S' := (71, [(4, .int 1), (0, .ref ac), (1, .ref a), (2, .int (nI p)), (3, .int (nI i))], [.int ((nI p) + 6), .int 1, .ref ac], M49)) rfl rfl rfl ?_
            rw [nI_add1 (p := p) (k := 6) (x := 6) rfl (by omega)]
            show pl _ _ _ (_, [(4, .int 1), (0, .ref ac), (1, .ref a), (2, .int (nI p)), (3, .int (nI i))], [.int (nI (p + 6)), .int 1, .ref ac], M49) _
            refine ps_st (S' := (72, [(4, .int 1), (0, .ref ac), (1, .ref a), (2, .int (nI p)), (3, .int (nI i))], [.ref ac, .int (nI (p + 6)), .int 1, .ref ac], M49)) rfl rfl rfl ?_
            refine ps_st (S' := (73, [(4, .int 1), (0, .ref ac), (1, .ref a), (2, .int (nI p)), (3, .int (nI i))], [.int (nI p), .ref ac, .int (nI (p + 6)), .int 1, .ref ac], M49)) rfl rfl rfl ?_
            refine pl_call (a := [.ref ac, .int (nI p)]) (rest := [.int (nI (p + 6)), .int 1, .ref ac]) rfl rfl rfl (dk_behind (f := f) (n := n) (q := q) (ac := ac) (c := c) (b := b) (da := da) (vd := vd) (s1 := (nI s'61)) (p := p) h62 h66 h67 (hn) (by omega)) (fun v72 M73 q74 => ?_)
            obtain ⟨rfl, rfl⟩ := q74
            show pl _ _ _ (76, [(4, .int 1), (0, .ref ac), (1, .ref a), (2, .int (nI p)), (3, .int (nI i))], [.int (nI (p + 6 + by4 f (p + 2))), .int (nI (p + 6)), .int 1, .ref ac], M49) _
            refine pl_call (a := [.ref ac, .int 1, .int (nI (p + 6)), .int (nI (p + 6 + by4 f (p + 2)))]) (rest := []) rfl rfl rfl (dk_formEnd (f := f) (n := n) (q := q) (ac := ac) (c := c) (b := b) (da := da) (vd := vd) (s1 := (nI s'61)) (k := 1) (p0 := (p + 6)) (e := (p + 6 + by4 f (p + 2))) h62 h66 h67 (hn) (by omega) (by omega)) (fun v75 M76 q77 => ?_)
            rcases q77 with q77 | q77
            · skip
              obtain ⟨q76_s, rfl, rfl⟩ := q77
              show pl _ _ _ (79, [(4, .int 1), (0, .ref ac), (1, .ref a), (2, .int (nI p)), (3, .int (nI i))], [.int (-1)], M49) _
              refine ps_st (S' := (80, [(4, .int 1), (0, .ref ac), (1, .ref a), (2, .int (nI p)), (3, .int (nI i))], [.ref ac, .int (-1)], M49)) rfl rfl rfl ?_
              refine ps_st (S' := (81, [(4, .int 1), (0, .ref ac), (1, .ref a), (2, .int (nI p)), (3, .int (nI i))], [.int (nI p), .ref ac, .int (-1)], M49)) rfl rfl rfl ?_
              refine pl_call (a := [.ref ac, .int (nI p)]) (rest := [.int (-1)]) rfl rfl rfl (dk_behind (f := f) (n := n) (q := q) (ac := ac) (c := c) (b := b) (da := da) (vd := vd) (s1 := (nI s'61)) (p := p) h62 h66 h67 (hn) (by omega)) (fun v78 M79 q80 => ?_)
              obtain ⟨rfl, rfl⟩ := q80
              show pl _ _ _ (84, [(4, .int 1), (0, .ref ac), (1, .ref a), (2, .int (nI p)), (3, .int (nI i))], [.int (nI (p + 6 + by4 f (p + 2))), .int (-1)], M49) _
              refine ps_if2 (S1 := (98, [(0, .ref ac), (1, .ref a), (2, .int (nI p)), (3, .int (nI i)), (4, .int 1)], [], M49)) (S2 := (87, [(4, .int 1), (0, .ref ac), (1, .ref a), (2, .int (nI p)), (3, .int (nI i))], [], M49)) rfl rfl rfl (fun c_84 => ?_) (fun c_84 => ?_)
              · exact absurd (of_decide_eq_true c_84) (m1_ne (by omega))
              have hfe : ¬ s_fe f 1 (p + 6) (p + 6 + by4 f (p + 2)) = some (p + 6 + by4 f (p + 2)) := by rw [q76_s]; exact fun h => by cases h
              refine ps_st (S' := (88, [(4, .int 1), (0, .ref ac), (1, .ref a), (2, .int (nI p)), (3, .int (nI i))], [.ref ac], M49)) rfl rfl rfl ?_
              refine ps_get (S' := (91, [(4, .int 1), (0, .ref ac), (1, .ref a), (2, .int (nI p)), (3, .int (nI i))], [.ref vd], M49)) rfl h62 rfl rfl ?_
              refine ps_st (S' := (93, [(4, .int 1), (0, .ref ac), (1, .ref a), (2, .int (nI p)), (3, .int (nI i))], [.int 30, .ref vd], M49)) rfl rfl rfl ?_
              refine ps_st (S' := (94, [(4, .int 1), (0, .ref ac), (1, .ref a), (2, .int (nI p)), (3, .int (nI i))], [.int (nI p), .int 30, .ref vd], M49)) rfl rfl rfl ?_
              refine pl_call (a := [.ref vd, .int 30, .int (nI p)]) (rest := []) rfl rfl rfl (dk_wrong (vd := vd) (ru := ru) (wa := wa) (x1 := 30) (x2 := (nI p)) h63) (fun v81 M82 q83 => ?_)
              obtain ⟨rfl, h84, f85⟩ := q83
              have h87 := (f85.1 ac (nin1 (ob_ne h62 h63 (by decide)))).trans h62
              have h88 := (f85.1 b (nin1 (ob_ne h66 h63 (by decide)))).trans h66
              have h89 := (f85.1 da (nin1 (Ne.symm (ob_ar h63 h67)))).trans h67
              have h90 := (f85.1 c (nin1 (ob_ne h68 h63 (by decide)))).trans h68
              have h91 := (f85.1 a (nin1 (ob_ne h69 h63 (by decide)))).trans h69
              have hF92 := hF70.tr f85 (by simp)
              have hV93 := hV71.keep f85.gm (n7c h63 (by decide) (n7nil))
              show pl _ _ _ (97, [(4, .int 1), (0, .ref ac), (1, .ref a), (2, .int (nI p)), (3, .int (nI i))], [.int 0], M82) _
              exact ps_ret rfl rfl (Or.inr ⟨(30, p), by
                  rw [← hs9, faS_st (i := i) (by omega), hk9, q51_s]
                  dsimp only
                  rw [if_pos ⟨by decide, hfe⟩], rfl, h84, hF92⟩)
            · skip
              obtain ⟨x94, q76_s, q76_l, rfl, rfl⟩ := q77
              show pl _ _ _ (79, [(4, .int 1), (0, .ref ac), (1, .ref a), (2, .int (nI p)), (3, .int (nI i))], [.int (nI x94)], M49) _
              refine ps_st (S' := (80, [(4, .int 1), (0, .ref ac), (1, .ref a), (2, .int (nI p)), (3, .int (nI i))], [.ref ac, .int (nI x94)], M49)) rfl rfl rfl ?_
              refine ps_st (S' := (81, [(4, .int 1), (0, .ref ac), (1, .ref a), (2, .int (nI p)), (3, .int (nI i))], [.int (nI p), .ref ac, .int (nI x94)], M49)) rfl rfl rfl ?_
              refine pl_call (a := [.ref ac, .int (nI p)]) (rest := [.int (nI x94)]) rfl rfl rfl (dk_behind (f := f) (n := n) (q := q) (ac := ac) (c := c) (b := b) (da := da) (vd := vd) (s1 := (nI s'61)) (p := p) h62 h66 h67 (hn) (by omega)) (fun v95 M96 q97 => ?_)
              obtain ⟨rfl, rfl⟩ := q97
              show pl _ _ _ (84, [(4, .int 1), (0, .ref ac), (1, .ref a), (2, .int (nI p)), (3, .int (nI i))], [.int (nI (p + 6 + by4 f (p + 2))), .int (nI x94)], M49) _
              refine ps_if2 (S1 := (98, [(0, .ref ac), (1, .ref a), (2, .int (nI p)), (3, .int (nI i)), (4, .int 1)], [], M49)) (S2 := (87, [(4, .int 1), (0, .ref ac), (1, .ref a), (2, .int (nI p)), (3, .int (nI i))], [], M49)) rfl rfl rfl (fun c_84 => ?_) (fun c_84 => ?_)
              · have c_84 : (nI x94) = (nI (p + 6 + by4 f (p + 2))) := of_decide_eq_true c_84
                have n_84 : x94 = p + 6 + by4 f (p + 2) := (eq_nI (p := x94) (n := p + 6 + by4 f (p + 2)) (by omega) (by omega)).mp c_84
                have hfe : s_fe f 1 (p + 6) (p + 6 + by4 f (p + 2)) = some (p + 6 + by4 f (p + 2)) := by rw [q76_s, n_84]
                have hb8 := (s_fe_in hfe).1
                refine ps_st (S' := (100, [(0, .ref ac), (1, .ref a), (2, .int (nI p)), (3, .int (nI i)), (4, .int 1)], [.int 1], M49)) rfl rfl rfl ?_
                refine ps_st (S' := (101, [(0, .ref ac), (1, .ref a), (2, .int (nI p)), (3, .int (nI i)), (4, .int 1)], [.int 1, .int 1], M49)) rfl rfl rfl ?_
                refine ps_if2 (S1 := (161, [(0, .ref ac), (1, .ref a), (2, .int (nI p)), (3, .int (nI i))], [], M49)) (S2 := (104, [(0, .ref ac), (1, .ref a), (2, .int (nI p)), (3, .int (nI i)), (4, .int 1)], [], M49)) rfl rfl rfl (fun c_101 => ?_) (fun c_101 => ?_)
                · exact absurd (of_decide_eq_true c_101) (by decide)
                refine ps_st (S' := (105, [(0, .ref ac), (1, .ref a), (2, .int (nI p)), (3, .int (nI i)), (4, .int 1)], [.ref a], M49)) rfl rfl rfl ?_
                refine ps_st (S' := (107, [(0, .ref ac), (1, .ref a), (2, .int (nI p)), (3, .int (nI i)), (4, .int 1)], [.int 8, .ref a], M49)) rfl rfl rfl ?_
                refine pl_call (a := [.ref a, .int 8]) (rest := []) rfl rfl rfl (dk_mhas (f := f) (a := a) (b0 := b0) (kn := kn2) (co := (nI K.2)) (ap := ap) (ex := ex) (cd := cd) (x := 8) h69) (fun v98 M99 q100 => ?_)
                obtain ⟨rfl, rfl⟩ := q100
                show pl _ _ _ (110, [(0, .ref ac), (1, .ref a), (2, .int (nI p)), (3, .int (nI i)), (4, .int 1)], [.int (nI (hasN (by2 f b0) 8))], M49) _
                refine ps_if (S1 := (161, [(0, .ref ac), (1, .ref a), (2, .int (nI p)), (3, .int (nI i))], [], M49)) (S2 := (113, [(0, .ref ac), (1, .ref a), (2, .int (nI p)), (3, .int (nI i)), (4, .int 1)], [], M49)) rfl rfl rfl (fun c_110 => ?_) (fun c_110 => ?_)
                · have c_110 : (nI (hasN (by2 f b0) 8)) = 0 := of_decide_eq_true c_110
                  have n_110 : hasN (by2 f b0) 8 = 0 := (eq_nI (p := hasN (by2 f b0) 8) (n := 0) (Nat.lt_trans (le1_has _ _) (by decide)) (by decide)).mp c_110
                  refine ps_st (S' := (162, [(0, .ref ac), (1, .ref a), (2, .int (nI p)), (3, .int (nI i))], [.ref ac], M49)) rfl rfl rfl ?_
                  refine ps_st (S' := (163, [(0, .ref ac), (1, .ref a), (2, .int (nI p)), (3, .int (nI i))], [.int (nI p), .ref ac], M49)) rfl rfl rfl ?_
                  refine pl_call (a := [.ref ac, .int (nI p)]) (rest := []) rfl rfl rfl (dk_behind (f := f) (n := n) (q := q) (ac := ac) (c := c) (b := b) (da := da) (vd := vd) (s1 := (nI s'61)) (p := p) h62 h66 h67 (hn) (by omega)) (fun v101 M102 q103 => ?_)
                  obtain ⟨rfl, rfl⟩ := q103
                  show pl _ _ _ (166, [(0, .ref ac), (1, .ref a), (2, .int (nI p)), (3, .int (nI i))], [.int (nI (p + 6 + by4 f (p + 2)))], M49) _
                  refine ps_st (S' := (167, [(2, .int (nI (p + 6 + by4 f (p + 2)))), (0, .ref ac), (1, .ref a), (3, .int (nI i))], [], M49)) rfl rfl rfl ?_
                  refine ps_st (S' := (170, [(3, .int ((nI i) + 1)), (2, .int (nI (p + 6 + by4 f (p + 2)))), (0, .ref ac), (1, .ref a)], [], M49)) rfl rfl rfl ?_
                  rw [nI_add1 (p := i) (k := 1) (x := 1) rfl (by omega)]
                  show pl _ _ _ (_, [(3, .int (nI (i + 1))), (2, .int (nI (p + 6 + by4 f (p + 2)))), (0, .ref ac), (1, .ref a)], [], M49) _
                  refine ps_st (S' := (12, [(0, .ref ac), (1, .ref a), (2, .int (nI (p + 6 + by4 f (p + 2)))), (3, .int (nI (i + 1)))], [], M49)) rfl rfl rfl ?_
                  exact ih (i + 1) (p + 6 + by4 f (p + 2)) ((s'61)) ((K.1 + 1, K.2)) (kn2) M49 h62 h66 h67 h68 h63 h69 hV71 hF70 (by omega) (q51_l) (hq7) (by
                      rw [← hs9, faS_st (i := i) (by omega), hk9, q51_s]
                      dsimp only
                      rw [if_neg (fun h => h.2 hfe)]
                      rw [if_neg (fun h => h.2.1 n_110)]) (by
                      rw [← hu, faU_st (i := i) (p := p) (by omega), hk9, stF_n n_110]) (by
                      rw [nw_pop q51_s (by decide), hpc]
                      rfl)
                · have c_110 : ¬ ((nI (hasN (by2 f b0) 8)) = 0) := of_decide_eq_false c_110
                  have n_110 : ¬ (hasN (by2 f b0) 8 = 0) := fun h9 => c_110 ((eq_nI (p := hasN (by2 f b0) 8) (n := 0) (Nat.lt_trans (le1_has _ _) (by decide)) (by decide)).mpr h9)
                  refine ps_st (S' := (114, [(0, .ref ac), (1, .ref a), (2, .int (nI p)), (3, .int (nI i)), (4, .int 1)], [.ref a], M49)) rfl rfl rfl ?_
                  refine ps_st (S' := (115, [(0, .ref ac), (1, .ref a), (2, .int (nI p)), (3, .int (nI i)), (4, .int 1)], [.ref ac, .ref a], M49)) rfl rfl rfl ?_
                  refine ps_get (S' := (118, [(0, .ref ac), (1, .ref a), (2, .int (nI p)), (3, .int (nI i)), (4, .int 1)], [.ref b, .ref a], M49)) rfl h62 rfl rfl ?_
                  refine ps_st (S' := (119, [(0, .ref ac), (1, .ref a), (2, .int (nI p)), (3, .int (nI i)), (4, .int 1)], [.int (nI p), .ref b, .ref a], M49)) rfl rfl rfl ?_
                  refine ps_st (S' := (121, [(0, .ref ac), (1, .ref a), (2, .int (nI p)), (3, .int (nI i)), (4, .int 1)], [.int 6, .int (nI p), .ref b, .ref a], M49)) rfl rfl rfl ?_
                  refine ps_st (S' := (122, [(0, .ref ac), (1, .ref a), (2, .int (nI p)), (3, .int (nI i)), (4, .int 1)], [.int ((nI p) + 6), .ref b, .ref a], M49)) rfl rfl rfl ?_
                  rw [nI_add1 (p := p) (k := 6) (x := 6) rfl (by omega)]
                  show pl _ _ _ (_, [(0, .ref ac), (1, .ref a), (2, .int (nI p)), (3, .int (nI i)), (4, .int 1)], [.int (nI (p + 6)), .ref b, .ref a], M49) _
                  refine pl_call (a := [.ref b, .int (nI (p + 6))]) (rest := [.ref a]) rfl rfl rfl (dk_u2 (f := f) (n := n) (b := b) (da := da) (p := (p + 6)) h66 h67 (hn) (by omega)) (fun v104 M105 q106 => ?_)
                  obtain ⟨rfl, rfl⟩ := q106
                  show pl _ _ _ (125, [(0, .ref ac), (1, .ref a), (2, .int (nI p)), (3, .int (nI i)), (4, .int 1)], [.int (nI (by2 f (p + 6))), .ref a], M49) _
                  have hu_122 := by2_lt f (p + 6)
                  refine ps_put (l' := [.int (nI b0), .int (nI (by2 f b0)), .int (nI (by2 f (b0 + 2))), .int (nI (by2 f (b0 + 4))), .int (nI (by2 f (b0 + 6))), .int (nI (b0 + 8)), .int kn2, .int (nI (by2 f (p + 6))), .int ap, .int ex, cd]) rfl h69 rfl rfl (fun M107 h108 f109 z110 => ?_)
                  have h111 := (f109 ac (ob_ne h62 h69 (by decide))).trans h62
                  have h112 := (f109 b (ob_ne h66 h69 (by decide))).trans h66
                  have h113 := (f109 da (Ne.symm (ob_ar h69 h67))).trans h67
                  have h114 := (f109 c (ob_ne h68 h69 (by decide))).trans h68
                  have h115 := (f109 vd (ob_ne h63 h69 (by decide))).trans h63
                  have hV116 := hV71.put h69 (by decide) f109 z110
                  have hF117 := hF70.up (by simp) f109 z110
                  show pl _ _ _ (128, [(0, .ref ac), (1, .ref a), (2, .int (nI p)), (3, .int (nI i)), (4, .int 1)], [], M107) _
                  refine ps_st (S' := (129, [(0, .ref ac), (1, .ref a), (2, .int (nI p)), (3, .int (nI i)), (4, .int 1)], [.ref ac], M107)) rfl rfl rfl ?_
                  refine ps_get (S' := (132, [(0, .ref ac), (1, .ref a), (2, .int (nI p)), (3, .int (nI i)), (4, .int 1)], [.ref q], M107)) rfl h111 rfl rfl ?_
                  refine ps_st (S' := (133, [(0, .ref ac), (1, .ref a), (2, .int (nI p)), (3, .int (nI i)), (4, .int 1)], [.ref a, .ref q], M107)) rfl rfl rfl ?_
                  refine ps_get (S' := (136, [(0, .ref ac), (1, .ref a), (2, .int (nI p)), (3, .int (nI i)), (4, .int 1)], [.int (nI (by2 f (p + 6))), .ref q], M107)) rfl h108 rfl rfl ?_
                  refine pl_call (a := [.ref q, .int (nI (by2 f (p + 6)))]) (rest := []) rfl rfl rfl (dy_tagOf (f := f) (n := n) (N := N) (q := q) (E := E) (j := (by2 f (p + 6))) (hV116) (by2_lt _ _)) (fun v118 M119 q120 => ?_)
                  obtain ⟨rfl, rfl⟩ := q120
                  show pl _ _ _ (139, [(0, .ref ac), (1, .ref a), (2, .int (nI p)), (3, .int (nI i)), (4, .int 1)], [.int (nI (tg f E (by2 f (p + 6))))], M107) _
                  refine ps_st (S' := (140, [(0, .ref ac), (1, .ref a), (2, .int (nI p)), (3, .int (nI i)), (4, .int 1)], [.ref ac, .int (nI (tg f E (by2 f (p + 6))))], M107)) rfl rfl rfl ?_
                  refine ps_st (S' := (141, [(0, .ref ac), (1, .ref a), (2, .int (nI p)), (3, .int (nI i)), (4, .int 1)], [.ref a, .ref ac, .int (nI (tg f E (by2 f (p + 6))))], M107)) rfl rfl rfl ?_
                  refine ps_get (S' := (144, [(0, .ref ac), (1, .ref a), (2, .int (nI p)), (3, .int (nI i)), (4, .int 1)], [.int (nI (by2 f (b0 + 4))), .ref ac, .int (nI (tg f E (by2 f (p + 6))))], M107)) rfl h108 rfl rfl ?_
                  refine pl_call (a := [.ref ac, .int (nI (by2 f (b0 + 4)))]) (rest := [.int (nI (tg f E (by2 f (p + 6))))]) rfl rfl rfl (dk_constantTag (f := f) (n := n) (N := N) (q := q) (E := E) (ac := ac) (c := c) (b := b) (da := da) (vd := vd) (fr := fr) (mr := mr) (fa := fa) (ic := ic) (mj := mj) (na := na) (pa := pa) (mi := mi) (ru := ru) (wa := wa) (s1 := (nI s'61)) (k1 := k1) (k2 := k2) (k3 := k3) (k4 := k4) (k5 := k5) (k6 := k6) (k7 := k7) (d := (by2 f (b0 + 4))) h111 h112 h113 (hn) (by2_lt _ _) (hV116)) (fun v121 M122 q123 => ?_)
                  rcases q123 with q123 | q123
                  · skip
                    obtain ⟨q144_s, rfl, rfl⟩ := q123
                    show pl _ _ _ (147, [(0, .ref ac), (1, .ref a), (2, .int (nI p)), (3, .int (nI i)), (4, .int 1)], [.int (-1), .int (nI (tg f E (by2 f (p + 6))))], M107) _
                    refine ps_if2 (S1 := (161, [(0, .ref ac), (1, .ref a), (2, .int (nI p)), (3, .int (nI i))], [], M107)) (S2 := (150, [(0, .ref ac), (1, .ref a), (2, .int (nI p)), (3, .int (nI i)), (4, .int 1)], [], M107)) rfl rfl rfl (fun c_147 => ?_) (fun c_147 => ?_)
                    · exact absurd (of_decide_eq_true c_147) (fun h9 => m1_ne (Nat.lt_trans (tg_lt _ _ _) (by decide)) h9.symm)
                    refine ps_st (S' := (151, [(0, .ref ac), (1, .ref a), (2, .int (nI p)), (3, .int (nI i)), (4, .int 1)], [.ref ac], M107)) rfl rfl rfl ?_
                    refine ps_get (S' := (154, [(0, .ref ac), (1, .ref a), (2, .int (nI p)), (3, .int (nI i)), (4, .int 1)], [.ref vd], M107)) rfl h111 rfl rfl ?_
                    refine ps_st (S' := (156, [(0, .ref ac), (1, .ref a), (2, .int (nI p)), (3, .int (nI i)), (4, .int 1)], [.int 31, .ref vd], M107)) rfl rfl rfl ?_
                    refine ps_st (S' := (157, [(0, .ref ac), (1, .ref a), (2, .int (nI p)), (3, .int (nI i)), (4, .int 1)], [.int (nI p), .int 31, .ref vd], M107)) rfl rfl rfl ?_
                    refine pl_call (a := [.ref vd, .int 31, .int (nI p)]) (rest := []) rfl rfl rfl (dk_wrong (vd := vd) (ru := ru) (wa := wa) (x1 := 31) (x2 := (nI p)) h115) (fun v124 M125 q126 => ?_)
                    obtain ⟨rfl, h127, f128⟩ := q126
                    have h130 := (f128.1 ac (nin1 (ob_ne h111 h115 (by decide)))).trans h111
                    have h131 := (f128.1 b (nin1 (ob_ne h112 h115 (by decide)))).trans h112
                    have h132 := (f128.1 da (nin1 (Ne.symm (ob_ar h115 h113)))).trans h113
                    have h133 := (f128.1 c (nin1 (ob_ne h114 h115 (by decide)))).trans h114
                    have h134 := (f128.1 a (nin1 (ob_ne h108 h115 (by decide)))).trans h108
                    have hF135 := hF117.tr f128 (by simp)
                    have hV136 := hV116.keep f128.gm (n7c h115 (by decide) (n7nil))
                    show pl _ _ _ (160, [(0, .ref ac), (1, .ref a), (2, .int (nI p)), (3, .int (nI i)), (4, .int 1)], [.int 0], M125) _
                    exact ps_ret rfl rfl (Or.inr ⟨(31, p), by
                        rw [← hs9, faS_st (i := i) (by omega), hk9, q51_s]
                        dsimp only
                        rw [if_neg (fun h => h.2 hfe)]
                        rw [if_pos ⟨by decide, n_110, by rw [q144_s]; exact fun h => by cases h⟩], rfl, h127, hF135⟩)
                  · skip
                    obtain ⟨x137, q144_s, q144_x, rfl, rfl⟩ := q123
                    show pl _ _ _ (147, [(0, .ref ac), (1, .ref a), (2, .int (nI p)), (3, .int (nI i)), (4, .int 1)], [.int (nI x137), .int (nI (tg f E (by2 f (p + 6))))], M107) _
                    refine ps_if2 (S1 := (161, [(0, .ref ac), (1, .ref a), (2, .int (nI p)), (3, .int (nI i))], [], M107)) (S2 := (150, [(0, .ref ac), (1, .ref a), (2, .int (nI p)), (3, .int (nI i)), (4, .int 1)], [], M107)) rfl rfl rfl (fun c_147 => ?_) (fun c_147 => ?_)
                    · have c_147 : (nI (tg f E (by2 f (p + 6)))) = (nI x137) := of_decide_eq_true c_147
                      have n_147 : tg f E (by2 f (p + 6)) = x137 := (eq_nI (p := tg f E (by2 f (p + 6))) (n := x137) (Nat.lt_trans (tg_lt _ _ _) (by decide)) (by omega)).mp c_147
                      refine ps_st (S' := (162, [(0, .ref ac), (1, .ref a), (2, .int (nI p)), (3, .int (nI i))], [.ref ac], M107)) rfl rfl rfl ?_
                      refine ps_st (S' := (163, [(0, .ref ac), (1, .ref a), (2, .int (nI p)), (3, .int (nI i))], [.int (nI p), .ref ac], M107)) rfl rfl rfl ?_
                      refine pl_call (a := [.ref ac, .int (nI p)]) (rest := []) rfl rfl rfl (dk_behind (f := f) (n := n) (q := q) (ac := ac) (c := c) (b := b) (da := da) (vd := vd) (s1 := (nI s'61)) (p := p) h111 h112 h113 (hn) (by omega)) (fun v138 M139 q140 => ?_)
                      obtain ⟨rfl, rfl⟩ := q140
                      show pl _ _ _ (166, [(0, .ref ac), (1, .ref a), (2, .int (nI p)), (3, .int (nI i))], [.int (nI (p + 6 + by4 f (p + 2)))], M107) _
                      refine ps_st (S' := (167, [(2, .int (nI (p + 6 + by4 f (p + 2)))), (0, .ref ac), (1, .ref a), (3, .int (nI i))], [], M107)) rfl rfl rfl ?_
                      refine ps_st (S' := (170, [(3, .int ((nI i) + 1)), (2, .int (nI (p + 6 + by4 f (p + 2)))), (0, .ref ac), (1, .ref a)], [], M107)) rfl rfl rfl ?_
                      rw [nI_add1 (p := i) (k := 1) (x := 1) rfl (by omega)]
                      show pl _ _ _ (_, [(3, .int (nI (i + 1))), (2, .int (nI (p + 6 + by4 f (p + 2)))), (0, .ref ac), (1, .ref a)], [], M107) _
                      refine ps_st (S' := (12, [(0, .ref ac), (1, .ref a), (2, .int (nI (p + 6 + by4 f (p + 2)))), (3, .int (nI (i + 1)))], [], M107)) rfl rfl rfl ?_
                      exact ih (i + 1) (p + 6 + by4 f (p + 2)) ((s'61)) ((K.1 + 1, by2 f (p + 6))) (kn2) M107 h111 h112 h113 h114 h115 h108 hV116 hF117 (by omega) (q51_l) (hq7) (by
                          rw [← hs9, faS_st (i := i) (by omega), hk9, q51_s]
                          dsimp only
                          rw [if_neg (fun h => h.2 hfe)]
                          rw [if_neg (fun h => h.2.2 (by rw [q144_s, n_147]))]) (by
                          rw [← hu, faU_st (i := i) (p := p) (by omega), hk9, stF_s n_110]) (by
                          rw [nw_pop q51_s (by decide), hpc]
                          rfl)
                    · have c_147 : ¬ ((nI (tg f E (by2 f (p + 6)))) = (nI x137)) := of_decide_eq_false c_147
                      have n_147 : ¬ (tg f E (by2 f (p + 6)) = x137) := fun h9 => c_147 ((eq_nI (p := tg f E (by2 f (p + 6))) (n := x137) (Nat.lt_trans (tg_lt _ _ _) (by decide)) (by omega)).mpr h9)
                      refine ps_st (S' := (151, [(0, .ref ac), (1, .ref a), (2, .int (nI p)), (3, .int (nI i)), (4, .int 1)], [.ref ac], M107)) rfl rfl rfl ?_
                      refine ps_get (S' := (154, [(0, .ref ac), (1, .ref a), (2, .int (nI p)), (3, .int (nI i)), (4, .int 1)], [.ref vd], M107)) rfl h111 rfl rfl ?_
                      refine ps_st (S' := (156, [(0, .ref ac), (1, .ref a), (2, .int (nI p)), (3, .int (nI i)), (4, .int 1)], [.int 31, .ref vd], M107)) rfl rfl rfl ?_
                      refine ps_st (S' := (157, [(0, .ref ac), (1, .ref a), (2, .int (nI p)), (3, .int (nI i)), (4, .int 1)], [.int (nI p), .int 31, .ref vd], M107)) rfl rfl rfl ?_
                      refine pl_call (a := [.ref vd, .int 31, .int (nI p)]) (rest := []) rfl rfl rfl (dk_wrong (vd := vd) (ru := ru) (wa := wa) (x1 := 31) (x2 := (nI p)) h115) (fun v141 M142 q143 => ?_)
                      obtain ⟨rfl, h144, f145⟩ := q143
                      have h147 := (f145.1 ac (nin1 (ob_ne h111 h115 (by decide)))).trans h111
                      have h148 := (f145.1 b (nin1 (ob_ne h112 h115 (by decide)))).trans h112
                      have h149 := (f145.1 da (nin1 (Ne.symm (ob_ar h115 h113)))).trans h113
                      have h150 := (f145.1 c (nin1 (ob_ne h114 h115 (by decide)))).trans h114
                      have h151 := (f145.1 a (nin1 (ob_ne h108 h115 (by decide)))).trans h108
                      have hF152 := hF117.tr f145 (by simp)
                      have hV153 := hV116.keep f145.gm (n7c h115 (by decide) (n7nil))
                      show pl _ _ _ (160, [(0, .ref ac), (1, .ref a), (2, .int (nI p)), (3, .int (nI i)), (4, .int 1)], [.int 0], M142) _
                      exact ps_ret rfl rfl (Or.inr ⟨(31, p), by
                          rw [← hs9, faS_st (i := i) (by omega), hk9, q51_s]
                          dsimp only
                          rw [if_neg (fun h => h.2 hfe)]
                          rw [if_pos ⟨by decide, n_110, by rw [q144_s]; exact fun h => n_147 (Option.some.inj h).symm⟩], rfl, h144, hF152⟩)
              · have c_84 : ¬ ((nI x94) = (nI (p + 6 + by4 f (p + 2)))) := of_decide_eq_false c_84
                have n_84 : ¬ (x94 = p + 6 + by4 f (p + 2)) := fun h9 => c_84 ((eq_nI (p := x94) (n := p + 6 + by4 f (p + 2)) (by omega) (by omega)).mpr h9)
                have hfe : ¬ s_fe f 1 (p + 6) (p + 6 + by4 f (p + 2)) = some (p + 6 + by4 f (p + 2)) := by rw [q76_s]; exact fun h => n_84 (Option.some.inj h)
                refine ps_st (S' := (88, [(4, .int 1), (0, .ref ac), (1, .ref a), (2, .int (nI p)), (3, .int (nI i))], [.ref ac], M49)) rfl rfl rfl ?_
                refine ps_get (S' := (91, [(4, .int 1), (0, .ref ac), (1, .ref a), (2, .int (nI p)), (3, .int (nI i))], [.ref vd], M49)) rfl h62 rfl rfl ?_
                refine ps_st (S' := (93, [(4, .int 1), (0, .ref ac), (1, .ref a), (2, .int (nI p)), (3, .int (nI i))], [.int 30, .ref vd], M49)) rfl rfl rfl ?_
                refine ps_st (S' := (94, [(4, .int 1), (0, .ref ac), (1, .ref a), (2, .int (nI p)), (3, .int (nI i))], [.int (nI p), .int 30, .ref vd], M49)) rfl rfl rfl ?_
                refine pl_call (a := [.ref vd, .int 30, .int (nI p)]) (rest := []) rfl rfl rfl (dk_wrong (vd := vd) (ru := ru) (wa := wa) (x1 := 30) (x2 := (nI p)) h63) (fun v154 M155 q156 => ?_)
                obtain ⟨rfl, h157, f158⟩ := q156
                have h160 := (f158.1 ac (nin1 (ob_ne h62 h63 (by decide)))).trans h62
                have h161 := (f158.1 b (nin1 (ob_ne h66 h63 (by decide)))).trans h66
                have h162 := (f158.1 da (nin1 (Ne.symm (ob_ar h63 h67)))).trans h67
                have h163 := (f158.1 c (nin1 (ob_ne h68 h63 (by decide)))).trans h68
                have h164 := (f158.1 a (nin1 (ob_ne h69 h63 (by decide)))).trans h69
                have hF165 := hF70.tr f158 (by simp)
                have hV166 := hV71.keep f158.gm (n7c h63 (by decide) (n7nil))
                show pl _ _ _ (97, [(4, .int 1), (0, .ref ac), (1, .ref a), (2, .int (nI p)), (3, .int (nI i))], [.int 0], M155) _
                exact ps_ret rfl rfl (Or.inr ⟨(30, p), by
                    rw [← hs9, faS_st (i := i) (by omega), hk9, q51_s]
                    dsimp only
                    rw [if_pos ⟨by decide, hfe⟩], rfl, h157, hF165⟩)
  refine ps_st (S' := (1, [(0, .ref ac), (1, .ref a)], [.ref ac], M)) rfl rfl rfl ?_
  refine ps_st (S' := (2, [(0, .ref ac), (1, .ref a)], [.int 0, .ref ac], M)) rfl rfl rfl ?_
  refine ps_put (l' := [.ref c, .ref b, .ref q, .ref vd, .int 0]) rfl h_ac rfl rfl (fun M167 h168 f169 z170 => ?_)
  have h171 := (f169 b (ob_ne h_b h_ac (by decide))).trans h_b
  have h172 := (f169 da (Ne.symm (ob_ar h_ac h_da))).trans h_da
  have h173 := (f169 c (ob_ne h_c h_ac (by decide))).trans h_c
  have h174 := (f169 vd (ob_ne h_vd h_ac (by decide))).trans h_vd
  have h175 := (f169 a (ob_ne h_a h_ac (by decide))).trans h_a
  have hV176 := hV.put h_ac (by decide) f169 z170
  have hF177 := hF.up (by simp) f169 z170
  show pl _ _ _ (5, [(0, .ref ac), (1, .ref a)], [], M167) _
  refine ps_st (S' := (6, [(0, .ref ac), (1, .ref a)], [.ref a], M167)) rfl rfl rfl ?_
  refine ps_get (S' := (9, [(0, .ref ac), (1, .ref a)], [.int (nI (b0 + 8))], M167)) rfl h175 rfl rfl ?_
  refine ps_st (S' := (10, [(2, .int (nI (b0 + 8))), (0, .ref ac), (1, .ref a)], [], M167)) rfl rfl rfl ?_
  refine ps_st (S' := (11, [(2, .int (nI (b0 + 8))), (0, .ref ac), (1, .ref a)], [.int 0], M167)) rfl rfl rfl ?_
  refine ps_st (S' := (12, [(0, .ref ac), (1, .ref a), (2, .int (nI (b0 + 8))), (3, .int 0)], [], M167)) rfl rfl rfl ?_
  exact (LL kf) (0) (b0 + 8) (0) ((0, 0)) (kn) M167 h168 h171 h172 h173 h174 h175 hV176 hF177 (by omega) (by decide) (hat) (rfl) (rfl) (rfl)
set_option maxHeartbeats 1000000 in
theorem dk_ofMethod7 {g : xe_G} {M : mi_H} {f : Nat → Int32} {n N q : Nat} {E : List (Nat × Nat)} {ac c b da vd fr mr fa ic mj na pa : Nat} {mi ru wa s1 k1 k2 k3 k4 k5 k6 k7 : Int32} {a b0 e0 w : Nat} {kn co : Int32} (h_ac : M.1 ac = some (ob 0 [.ref c, .ref b, .ref q, .ref vd, .int s1])) (h_b : M.1 b = some (ob 1 [.ref da])) (h_da : M.1 da = some (ar .byte n f)) (h_c : M.1 c = some (ob 3 [.ref b, .ref q, .int mi, .int (nI mj), .int (nI fa), .int (nI ic), .ref fr, .ref mr, .int (nI na), .int (nI pa), .int k1, .int k2, .int k3, .int k4, .int k5, .int k6, .int k7])) (h_vd : M.1 vd = some (ob 10 [.int ru, .int wa])) (h_a : M.1 a = some (ob 6 [.int (nI b0), .int (nI (by2 f b0)), .int (nI (by2 f (b0 + 2))), .int (nI (by2 f (b0 + 4))), .int (nI (by2 f (b0 + 6))), .int (nI (b0 + 8)), .int kn, .int co, .int (nI w), .int 0, .null])) (hn : n ≤ 65540) (hmj : mj < 65536) (hb1 : b0 + 8 ≤ n) (hat : s_atts f n (by2 f (b0 + 6)) (b0 + 8) = .inr e0) (hw : w < 100000) (hV : PV g f n N E q M) (l_ac : ac < M.2.1) (l_c : c < M.2.1) (l_b : b < M.2.1) (l_da : da < M.2.1) (l_vd : vd < M.2.1) (l_a : a < M.2.1) (l_q : q < M.2.1) : pt (mT g) 40 [.ref ac, .ref a] M (fun v M' => (∃ (h : Nat) (s2 : Int32) (K : Nat × Nat × Nat) (cd2 : Value), (maS f n E mj w (by2 f (b0 + 6)) (b0 + 8) 0 0 = .inr h) ∧ ((h = 0 ∧ cd2 = .null) ∨ (h = 1 ∧ ∃ z9, cd2 = .ref z9)) ∧ (maU f n E (by2 f (b0 + 6)) (b0 + 8) (0, 0, 0) = K) ∧ (CD0 f mj q b K.2.1 cd2 M.2.1 M') ∧ v = some (.int 1) ∧ M'.1 vd = some (ob 10 [.int ru, .int wa]) ∧ M'.1 ac = some (ob 0 [.ref c, .ref b, .ref q, .ref vd, .int s2]) ∧ M'.1 a = some (ob 6 [.int (nI b0), .int (nI (by2 f b0)), .int (nI (by2 f (b0 + 2))), .int (nI (by2 f (b0 + 4))), .int (nI (by2 f (b0 + 6))), .int (nI (b0 + 8)), .int (nI K.1), .int co, .int (nI w), .int (nI K.2.2), cd2]) ∧ gm [ac, vd, a] M M' ∧ M.2.1 ≤ M'.2.1) ∨ (∃ (e9 : Nat × Nat), (maS f n E mj w (by2 f (b0 + 6)) (b0 + 8) 0 0 = .inl e9) ∧ v = some (.int 0) ∧ M'.1 vd = some (ob 10 [.int (nI e9.1), .int (nI e9.2)]) ∧ gm [ac, vd, a] M M' ∧ M.2.1 ≤ M'.2.1)) := by
  refine pt_in (b := mb_40 g) rfl (fun kf => ?_)
  show pl (mT g) kf (mb_40 g).2 (0, [(0, .ref ac), (1, .ref a)], [], M) _
  have hF : gm [ac, vd, a] M M := gm.rf
  obtain ⟨z0, tp0⟩ : ∃ z0, M.2.1 = z0 := ⟨_, rfl⟩
  have hC : CD0 f mj q b 0 .null z0 M := Or.inl ⟨rfl, rfl⟩
  have LL : ∀ (kf : Nat), (∀ (i p s2 h t1 : Nat) (K : Nat × Nat × Nat) (kn2 : Int32) (cd2 : Value) (M1 : mi_H), (M1.1 ac = some (ob 0 [.ref c, .ref b, .ref q, .ref vd, .int (nI s2)])) → (M1.1 b = some (ob 1 [.ref da])) → (M1.1 da = some (ar .byte n f)) → (M1.1 c = some (ob 3 [.ref b, .ref q, .int mi, .int (nI mj), .int (nI fa), .int (nI ic), .ref fr, .ref mr, .int (nI na), .int (nI pa), .int k1, .int k2, .int k3, .int k4, .int k5, .int k6, .int k7])) → (M1.1 vd = some (ob 10 [.int ru, .int wa])) → (M1.1 a = some (ob 6 [.int (nI b0), .int (nI (by2 f b0)), .int (nI (by2 f (b0 + 2))), .int (nI (by2 f (b0 + 4))), .int (nI (by2 f (b0 + 6))), .int (nI (b0 + 8)), .int kn2, .int co, .int (nI w), .int (nI K.2.2), cd2])) → (PV g f n N E q M1) → (CD0 f mj q b K.2.1 cd2 z0 M1) → (gm [ac, vd, a] M M1) → (M1.2.1 = t1) → (z0 ≤ t1) → (i ≤ by2 f (b0 + 6)) → (s2 < 2048) → ((h = 0 ∧ cd2 = .null) ∨ (h = 1 ∧ ∃ z9, cd2 = .ref z9)) → (s_atts f n (by2 f (b0 + 6) - i) p = .inr e0) → (maS f n E mj w (by2 f (b0 + 6) - i) p s2 h = maS f n E mj w (by2 f (b0 + 6)) (b0 + 8) 0 0) → (maU f n E (by2 f (b0 + 6) - i) p K = maU f n E (by2 f (b0 + 6)) (b0 + 8) (0, 0, 0)) → (sb s2 2 + sb s2 3 = K.1) → (8 ≤ p) →  pl (mT g) kf (mb_40 g).2 (12, [(0, .ref ac), (1, .ref a), (2, .int (nI p)), (3, .int (nI i))], [], M1) (fun v M' => (∃ (h : Nat) (s2 : Int32) (K : Nat × Nat × Nat) (cd2 : Value), (maS f n E mj w (by2 f (b0 + 6)) (b0 + 8) 0 0 = .inr h) ∧ ((h = 0 ∧ cd2 = .null) ∨ (h = 1 ∧ ∃ z9, cd2 = .ref z9)) ∧ (maU f n E (by2 f (b0 + 6)) (b0 + 8) (0, 0, 0) = K) ∧ (CD0 f mj q b K.2.1 cd2 M.2.1 M') ∧ v = some (.int 1) ∧ M'.1 vd = some (ob 10 [.int ru, .int wa]) ∧ M'.1 ac = some (ob 0 [.ref c, .ref b, .ref q, .ref vd, .int s2]) ∧ M'.1 a = some (ob 6 [.int (nI b0), .int (nI (by2 f b0)), .int (nI (by2 f (b0 + 2))), .int (nI (by2 f (b0 + 4))), .int (nI (by2 f (b0 + 6))), .int (nI (b0 + 8)), .int (nI K.1), .int co, .int (nI w), .int (nI K.2.2), cd2]) ∧ gm [ac, vd, a] M M' ∧ M.2.1 ≤ M'.2.1) ∨ (∃ (e9 : Nat × Nat), (maS f n E mj w (by2 f (b0 + 6)) (b0 + 8) 0 0 = .inl e9) ∧ v = some (.int 0) ∧ M'.1 vd = some (ob 10 [.int (nI e9.1), .int (nI e9.2)]) ∧ gm [ac, vd, a] M M' ∧ M.2.1 ≤ M'.2.1))) := by
    intro kf
    induction kf with
    | zero => exact (by intros; exact pl_0)
    | succ kf ih =>
      intro i p s2 h t1 K kn2 cd2 M1 hl_ac hl_b hl_da hl_c hl_vd hl_a hV1 hC1 hF1 tp1 ht hi hl hh ha hs9 hu hpc hp8
      have hu9 := by2_lt f (b0 + 6)
      refine ps_st1 (S' := (13, [(0, .ref ac), (1, .ref a), (2, .int (nI p)), (3, .int (nI i))], [.int (nI i)], M1)) rfl rfl rfl ?_
      refine ps_st (S' := (14, [(0, .ref ac), (1, .ref a), (2, .int (nI p)), (3, .int (nI i))], [.ref a, .int (nI i)], M1)) rfl rfl rfl ?_
      refine ps_get (S' := (17, [(0, .ref ac), (1, .ref a), (2, .int (nI p)), (3, .int (nI i))], [.int (nI (by2 f (b0 + 6))), .int (nI i)], M1)) rfl hl_a rfl rfl ?_
      refine ps_if2 (S1 := (154, [(0, .ref ac), (1, .ref a), (2, .int (nI p)), (3, .int (nI i))], [], M1)) (S2 := (20, [(0, .ref ac), (1, .ref a), (2, .int (nI p)), (3, .int (nI i))], [], M1)) rfl rfl rfl (fun c_17 => ?_) (fun c_17 => ?_)
      · have c_17 : (nI (by2 f (b0 + 6))) ≤ (nI i) := of_decide_eq_true c_17
        have n_17 : by2 f (b0 + 6) ≤ i := (le_nI (p := by2 f (b0 + 6)) (n := i) (Nat.lt_trans (by2_lt _ _) (by decide)) (by omega)).mp c_17
        refine ps_st (S' := (155, [(0, .ref ac), (1, .ref a), (2, .int (nI p)), (3, .int (nI i))], [.ref a], M1)) rfl rfl rfl ?_
        refine ps_st (S' := (156, [(0, .ref ac), (1, .ref a), (2, .int (nI p)), (3, .int (nI i))], [.ref ac, .ref a], M1)) rfl rfl rfl ?_
        refine ps_get (S' := (159, [(0, .ref ac), (1, .ref a), (2, .int (nI p)), (3, .int (nI i))], [.int (nI s2), .ref a], M1)) rfl hl_ac rfl rfl ?_
        refine ps_st (S' := (161, [(0, .ref ac), (1, .ref a), (2, .int (nI p)), (3, .int (nI i))], [.int 12, .int (nI s2), .ref a], M1)) rfl rfl rfl ?_
        refine ps_st (S' := (162, [(0, .ref ac), (1, .ref a), (2, .int (nI p)), (3, .int (nI i))], [.int ((nI s2) &&& 12), .ref a], M1)) rfl rfl rfl ?_
        rw [nI_an (p := s2) (k := 12) (x := 12) rfl]
        show pl _ _ _ (_, [(0, .ref ac), (1, .ref a), (2, .int (nI p)), (3, .int (nI i))], [.int (nI (aN s2 12)), .ref a], M1) _
        refine pl_call (a := [.int (nI (aN s2 12))]) (rest := [.ref a]) rfl rfl rfl (dk_bitCountN (y := (aN s2 12)) (Nat.lt_of_le_of_lt (an_le _ _) (by decide))) (fun v1 M2 q3 => ?_)
        obtain ⟨rfl, rfl⟩ := q3
        show pl _ _ _ (165, [(0, .ref ac), (1, .ref a), (2, .int (nI p)), (3, .int (nI i))], [.int (nI (popN (aN s2 12))), .ref a], M1) _
        refine ps_put (l' := [.int (nI b0), .int (nI (by2 f b0)), .int (nI (by2 f (b0 + 2))), .int (nI (by2 f (b0 + 4))), .int (nI (by2 f (b0 + 6))), .int (nI (b0 + 8)), .int (nI (popN (aN s2 12))), .int co, .int (nI w), .int (nI K.2.2), cd2]) rfl hl_a rfl rfl (fun M4 h5 f6 z7 => ?_)
        have h8 := (f6 ac (ob_ne hl_ac hl_a (by decide))).trans hl_ac
        have h9 := (f6 b (ob_ne hl_b hl_a (by decide))).trans hl_b
        have h10 := (f6 da (Ne.symm (ob_ar hl_a hl_da))).trans hl_da
        have h11 := (f6 c (ob_ne hl_c hl_a (by decide))).trans hl_c
        have h12 := (f6 vd (ob_ne hl_vd hl_a (by decide))).trans hl_vd
        have hV13 := hV1.put hl_a (by decide) f6 z7
        have hV14 := hC1.put hl_a (by decide) f6 z7
        have hF15 := hF1.up (Or.inl (by simp)) f6 (by rw [z7]; exact Nat.le_refl _)
        have tp16 : M4.2.1 = t1 := by rw [z7]; exact tp1
        show pl _ _ _ (168, [(0, .ref ac), (1, .ref a), (2, .int (nI p)), (3, .int (nI i))], [], M4) _
        refine ps_st (S' := (169, [(0, .ref ac), (1, .ref a), (2, .int (nI p)), (3, .int (nI i))], [.int 1], M4)) rfl rfl rfl ?_
        exact ps_ret rfl rfl (Or.inl ⟨h, _, K, _, by rw [← hs9, show by2 f (b0 + 6) - i = 0 by omega]; rfl, hh, by rw [← hu, show by2 f (b0 + 6) - i = 0 by omega]; rfl, by rw [tp0]; exact hV14, rfl, h12, h8, by rw [← hpc, ← pop_12 s2 hl]; exact h5, hF15, hF15.2⟩)
      · have c_17 : ¬ ((nI (by2 f (b0 + 6))) ≤ (nI i)) := of_decide_eq_false c_17
        have n_17 : ¬ (by2 f (b0 + 6) ≤ i) := fun h9 => c_17 ((le_nI (p := by2 f (b0 + 6)) (n := i) (Nat.lt_trans (by2_lt _ _) (by decide)) (by omega)).mpr h9)
        obtain ⟨hq5, hq6, hq7⟩ := s_atts_in (i := i) (p := p) ha (by omega)
        refine ps_st (S' := (21, [(0, .ref ac), (1, .ref a), (2, .int (nI p)), (3, .int (nI i))], [.ref ac], M1)) rfl rfl rfl ?_
        refine ps_st (S' := (22, [(0, .ref ac), (1, .ref a), (2, .int (nI p)), (3, .int (nI i))], [.ref ac, .ref ac], M1)) rfl rfl rfl ?_
        refine ps_get (S' := (25, [(0, .ref ac), (1, .ref a), (2, .int (nI p)), (3, .int (nI i))], [.ref b, .ref ac], M1)) rfl hl_ac rfl rfl ?_
        refine ps_st (S' := (26, [(0, .ref ac), (1, .ref a), (2, .int (nI p)), (3, .int (nI i))], [.int (nI p), .ref b, .ref ac], M1)) rfl rfl rfl ?_
        refine pl_call (a := [.ref b, .int (nI p)]) (rest := [.ref ac]) rfl rfl rfl (dk_u2 (f := f) (n := n) (b := b) (da := da) (p := p) hl_b hl_da (hn) (by omega)) (fun v17 M18 q19 => ?_)
        obtain ⟨rfl, rfl⟩ := q19
        show pl _ _ _ (29, [(0, .ref ac), (1, .ref a), (2, .int (nI p)), (3, .int (nI i))], [.int (nI (by2 f p)), .ref ac], M1) _
        have hu_26 := by2_lt f p
        refine pl_call (a := [.ref ac, .int (nI (by2 f p))]) (rest := []) rfl rfl rfl (dk_methodKind (f := f) (n := n) (N := N) (q := q) (E := E) (ac := ac) (c := c) (b := b) (da := da) (vd := vd) (fr := fr) (mr := mr) (fa := fa) (ic := ic) (mj := mj) (na := na) (pa := pa) (mi := mi) (ru := ru) (wa := wa) (s1 := (nI s2)) (k1 := k1) (k2 := k2) (k3 := k3) (k4 := k4) (k5 := k5) (k6 := k6) (k7 := k7) (x := (by2 f p)) hl_ac hl_b hl_da (hn) (by2_lt _ _) (hV1)) (fun v20 M21 q22 => ?_)
        obtain ⟨rfl, rfl⟩ := q22
        show pl _ _ _ (32, [(0, .ref ac), (1, .ref a), (2, .int (nI p)), (3, .int (nI i))], [.int (nI (mkN f n E (by2 f p)))], M1) _
        have hk8 := le_mk f n E (by2 f p)
        have hk7 := mk_3 f n E (by2 f p)
        refine ps_st (S' := (34, [(4, .int (nI (mkN f n E (by2 f p)))), (0, .ref ac), (1, .ref a), (2, .int (nI p)), (3, .int (nI i))], [], M1)) rfl rfl rfl ?_
        refine ps_st (S' := (35, [(4, .int (nI (mkN f n E (by2 f p)))), (0, .ref ac), (1, .ref a), (2, .int (nI p)), (3, .int (nI i))], [.ref ac], M1)) rfl rfl rfl ?_
        refine ps_st (S' := (36, [(4, .int (nI (mkN f n E (by2 f p)))), (0, .ref ac), (1, .ref a), (2, .int (nI p)), (3, .int (nI i))], [.int (nI p), .ref ac], M1)) rfl rfl rfl ?_
        refine ps_st (S' := (38, [(4, .int (nI (mkN f n E (by2 f p)))), (0, .ref ac), (1, .ref a), (2, .int (nI p)), (3, .int (nI i))], [.int (nI (mkN f n E (by2 f p))), .int (nI p), .ref ac], M1)) rfl rfl rfl ?_
        refine pl_call (a := [.ref ac, .int (nI p), .int (nI (mkN f n E (by2 f p)))]) (rest := []) rfl rfl rfl (dk_isNew (f := f) (n := n) (N := N) (q := q) (E := E) (ac := ac) (c := c) (b := b) (da := da) (vd := vd) (fr := fr) (mr := mr) (fa := fa) (ic := ic) (mj := mj) (na := na) (pa := pa) (mi := mi) (ru := ru) (wa := wa) (k1 := k1) (k2 := k2) (k3 := k3) (k4 := k4) (k5 := k5) (k6 := k6) (k7 := k7) (s := s2) (k := (mkN f n E (by2 f p))) (p := p) hl_ac hl_b hl_da hl_vd (hn) (by omega) (by omega) (by omega) (hV1)) (fun v23 M24 q25 => ?_)
        rcases q25 with q25 | q25
        · skip
          obtain ⟨e26, q38_s, rfl, h27, f28⟩ := q25
          have h30 := (f28.1 b (nin2 (ob_ne hl_b hl_ac (by decide)) (ob_ne hl_b hl_vd (by decide)))).trans hl_b
          have h31 := (f28.1 da (nin2 (Ne.symm (ob_ar hl_ac hl_da)) (Ne.symm (ob_ar hl_vd hl_da)))).trans hl_da
          have h32 := (f28.1 c (nin2 (ob_ne hl_c hl_ac (by decide)) (ob_ne hl_c hl_vd (by decide)))).trans hl_c
          have h33 := (f28.1 a (nin2 (ob_ne hl_a hl_ac (by decide)) (ob_ne hl_a hl_vd (by decide)))).trans hl_a
          have hF34 := hF1.trf f28 (by intro z hz; simp only [List.mem_cons, List.not_mem_nil, or_false] at hz ⊢; try omega)
          have tp35 : M24.2.1 = t1 := by rw [f28.2]; exact tp1
          have hV36 := hV1.keep f28.gm (n7c hl_ac (by decide) (n7c hl_vd (by decide) (n7nil)))
          have hV37 := hC1.keep f28.gm (nCc hl_ac (by decide) (nCc hl_vd (by decide) (nCn)))
          show pl _ _ _ (41, [(4, .int (nI (mkN f n E (by2 f p)))), (0, .ref ac), (1, .ref a), (2, .int (nI p)), (3, .int (nI i))], [.int 0], M24) _
          refine ps_if (S1 := (46, [(4, .int (nI (mkN f n E (by2 f p)))), (0, .ref ac), (1, .ref a), (2, .int (nI p)), (3, .int (nI i))], [], M24)) (S2 := (44, [(4, .int (nI (mkN f n E (by2 f p)))), (0, .ref ac), (1, .ref a), (2, .int (nI p)), (3, .int (nI i))], [], M24)) rfl rfl rfl (fun c_41 => ?_) (fun c_41 => ?_)
          · exact absurd (of_decide_eq_true c_41) (by decide)
          refine ps_st (S' := (45, [(4, .int (nI (mkN f n E (by2 f p)))), (0, .ref ac), (1, .ref a), (2, .int (nI p)), (3, .int (nI i))], [.int 0], M24)) rfl rfl rfl ?_
          exact ps_ret rfl rfl (Or.inr ⟨e26, by
              rw [← hs9, maS_st (i := i) (by omega), q38_s], rfl, h27, hF34, hF34.2⟩)
        · skip
          obtain ⟨s'38, q38_s, q38_l, rfl, h39, h40, f41⟩ := q25
          have h43 := (f41.1 b (nin2 (ob_ne hl_b hl_ac (by decide)) (ob_ne hl_b hl_vd (by decide)))).trans hl_b
          have h44 := (f41.1 da (nin2 (Ne.symm (ob_ar hl_ac hl_da)) (Ne.symm (ob_ar hl_vd hl_da)))).trans hl_da
          have h45 := (f41.1 c (nin2 (ob_ne hl_c hl_ac (by decide)) (ob_ne hl_c hl_vd (by decide)))).trans hl_c
          have h46 := (f41.1 a (nin2 (ob_ne hl_a hl_ac (by decide)) (ob_ne hl_a hl_vd (by decide)))).trans hl_a
          have hF47 := hF1.trf f41 (by intro z hz; simp only [List.mem_cons, List.not_mem_nil, or_false] at hz ⊢; try omega)
          have tp48 : M24.2.1 = t1 := by rw [f41.2]; exact tp1
          have hV49 := hV1.keep f41.gm (n7c hl_ac (by decide) (n7c hl_vd (by decide) (n7nil)))
          have hV50 := hC1.keep f41.gm (nCc hl_ac (by decide) (nCc hl_vd (by decide) (nCn)))
          show pl _ _ _ (41, [(4, .int (nI (mkN f n E (by2 f p)))), (0, .ref ac), (1, .ref a), (2, .int (nI p)), (3, .int (nI i))], [.int 1], M24) _
          refine ps_if (S1 := (46, [(4, .int (nI (mkN f n E (by2 f p)))), (0, .ref ac), (1, .ref a), (2, .int (nI p)), (3, .int (nI i))], [], M24)) (S2 := (44, [(4, .int (nI (mkN f n E (by2 f p)))), (0, .ref ac), (1, .ref a), (2, .int (nI p)), (3, .int (nI i))], [], M24)) rfl rfl rfl (fun c_41 => ?_) (fun c_41 => ?_)
          rotate_left
          · exact absurd (by decide) (of_decide_eq_false c_41)
          refine ps_st (S' := (48, [(4, .int (nI (mkN f n E (by2 f p)))), (0, .ref ac), (1, .ref a), (2, .int (nI p)), (3, .int (nI i))], [.int (nI (mkN f n E (by2 f p)))], M24)) rfl rfl rfl ?_
          refine ps_if (S1 := (85, [(0, .ref ac), (1, .ref a), (2, .int (nI p)), (3, .int (nI i)), (4, .int (nI (mkN f n E (by2 f p))))], [], M24)) (S2 := (51, [(4, .int (nI (mkN f n E (by2 f p)))), (0, .ref ac), (1, .ref a), (2, .int (nI p)), (3, .int (nI i))], [], M24)) rfl rfl rfl (fun c_48 => ?_) (fun c_48 => ?_)
          · have c_48 : (nI (mkN f n E (by2 f p))) = 0 := of_decide_eq_true c_48
            have n_48 : mkN f n E (by2 f p) = 0 := (eq_nI (p := mkN f n E (by2 f p)) (n := 0) (Nat.lt_trans (le_mk _ _ _ _) (by decide)) (by decide)).mp c_48
            refine ps_st (S' := (87, [(0, .ref ac), (1, .ref a), (2, .int (nI p)), (3, .int (nI i)), (4, .int (nI (mkN f n E (by2 f p))))], [.int (nI (mkN f n E (by2 f p)))], M24)) rfl rfl rfl ?_
            refine ps_st (S' := (88, [(0, .ref ac), (1, .ref a), (2, .int (nI p)), (3, .int (nI i)), (4, .int (nI (mkN f n E (by2 f p))))], [.int 2, .int (nI (mkN f n E (by2 f p)))], M24)) rfl rfl rfl ?_
            refine ps_if2 (S1 := (102, [(0, .ref ac), (1, .ref a), (2, .int (nI p)), (3, .int (nI i)), (4, .int (nI (mkN f n E (by2 f p))))], [], M24)) (S2 := (91, [(0, .ref ac), (1, .ref a), (2, .int (nI p)), (3, .int (nI i)), (4, .int (nI (mkN f n E (by2 f p))))], [], M24)) rfl rfl rfl (fun c_88 => ?_) (fun c_88 => ?_)
            rotate_left
            · exact absurd (show ¬ ((nI (mkN f n E (by2 f p))) = 2) from fun h9 => absurd ((eq_nI (p := mkN f n E (by2 f p)) (n := 2) (Nat.lt_trans (le_mk _ _ _ _) (by decide)) (by decide)).mp h9) (by omega)) (of_decide_eq_false c_88)
            refine ps_st (S' := (104, [(0, .ref ac), (1, .ref a), (2, .int (nI p)), (3, .int (nI i)), (4, .int (nI (mkN f n E (by2 f p))))], [.int (nI (mkN f n E (by2 f p)))], M24)) rfl rfl rfl ?_
            refine ps_st (S' := (105, [(0, .ref ac), (1, .ref a), (2, .int (nI p)), (3, .int (nI i)), (4, .int (nI (mkN f n E (by2 f p))))], [.int 3, .int (nI (mkN f n E (by2 f p)))], M24)) rfl rfl rfl ?_
            refine ps_if2 (S1 := (142, [(0, .ref ac), (1, .ref a), (2, .int (nI p)), (3, .int (nI i))], [], M24)) (S2 := (108, [(0, .ref ac), (1, .ref a), (2, .int (nI p)), (3, .int (nI i)), (4, .int (nI (mkN f n E (by2 f p))))], [], M24)) rfl rfl rfl (fun c_105 => ?_) (fun c_105 => ?_)
            rotate_left
            · exact absurd (show ¬ ((nI (mkN f n E (by2 f p))) = 3) from fun h9 => absurd ((eq_nI (p := mkN f n E (by2 f p)) (n := 3) (Nat.lt_trans (le_mk _ _ _ _) (by decide)) (by decide)).mp h9) (by omega)) (of_decide_eq_false c_105)
            refine ps_st (S' := (143, [(0, .ref ac), (1, .ref a), (2, .int (nI p)), (3, .int (nI i))], [.ref ac], M24)) rfl rfl rfl ?_
            refine ps_st (S' := (144, [(0, .ref ac), (1, .ref a), (2, .int (nI p)), (3, .int (nI i))], [.int (nI p), .ref ac], M24)) rfl rfl rfl ?_
            refine pl_call (a := [.ref ac, .int (nI p)]) (rest := []) rfl rfl rfl (dk_behind (f := f) (n := n) (q := q) (ac := ac) (c := c) (b := b) (da := da) (vd := vd) (s1 := (nI s'38)) (p := p) h39 h43 h44 (hn) (by omega)) (fun v51 M52 q53 => ?_)
            obtain ⟨rfl, rfl⟩ := q53
            show pl _ _ _ (147, [(0, .ref ac), (1, .ref a), (2, .int (nI p)), (3, .int (nI i))], [.int (nI (p + 6 + by4 f (p + 2)))], M24) _
            refine ps_st (S' := (148, [(2, .int (nI (p + 6 + by4 f (p + 2)))), (0, .ref ac), (1, .ref a), (3, .int (nI i))], [], M24)) rfl rfl rfl ?_
            refine ps_st (S' := (151, [(3, .int ((nI i) + 1)), (2, .int (nI (p + 6 + by4 f (p + 2)))), (0, .ref ac), (1, .ref a)], [], M24)) rfl rfl rfl ?_
            rw [nI_add1 (p := i) (k := 1) (x := 1) rfl (by omega)]
            show pl _ _ _ (_, [(3, .int (nI (i + 1))), (2, .int (nI (p + 6 + by4 f (p + 2)))), (0, .ref ac), (1, .ref a)], [], M24) _
            refine ps_st (S' := (12, [(0, .ref ac), (1, .ref a), (2, .int (nI (p + 6 + by4 f (p + 2)))), (3, .int (nI (i + 1)))], [], M24)) rfl rfl rfl ?_
            exact ih (i + 1) (p + 6 + by4 f (p + 2)) ((s'38)) (h) (t1) (K) (kn2) (cd2) M24 h39 h43 h44 h45 h40 h46 hV49 hV50 hF47 (tp48) (by omega) (by omega) (q38_l) (hh) (hq7) (by
                rw [← hs9, maS_st (i := i) (by omega), q38_s]
                dsimp only
                rw [if_neg (fun h => h.1 n_48), if_neg (by omega), if_neg (by omega)]) (by
                rw [← hu, maU_st (i := i) (p := p) (by omega), n_48, stM_0]) (by rw [nw_two q38_s (mk_3 _ _ _ _), if_pos n_48, hpc]) (by omega)
          · have c_48 : ¬ ((nI (mkN f n E (by2 f p))) = 0) := of_decide_eq_false c_48
            have n_48 : ¬ (mkN f n E (by2 f p) = 0) := fun h9 => c_48 ((eq_nI (p := mkN f n E (by2 f p)) (n := 0) (Nat.lt_trans (le_mk _ _ _ _) (by decide)) (by decide)).mpr h9)
            refine ps_st (S' := (52, [(4, .int (nI (mkN f n E (by2 f p)))), (0, .ref ac), (1, .ref a), (2, .int (nI p)), (3, .int (nI i))], [.ref ac], M24)) rfl rfl rfl ?_
            refine ps_st (S' := (54, [(4, .int (nI (mkN f n E (by2 f p)))), (0, .ref ac), (1, .ref a), (2, .int (nI p)), (3, .int (nI i))], [.int (nI (mkN f n E (by2 f p))), .ref ac], M24)) rfl rfl rfl ?_
            refine ps_st (S' := (55, [(4, .int (nI (mkN f n E (by2 f p)))), (0, .ref ac), (1, .ref a), (2, .int (nI p)), (3, .int (nI i))], [.int (nI p), .int (nI (mkN f n E (by2 f p))), .ref ac], M24)) rfl rfl rfl ?_
            refine ps_st (S' := (57, [(4, .int (nI (mkN f n E (by2 f p)))), (0, .ref ac), (1, .ref a), (2, .int (nI p)), (3, .int (nI i))], [.int 6, .int (nI p), .int (nI (mkN f n E (by2 f p))), .ref ac], M24)) rfl rfl rfl ?_
            refine ps_st (S' := (58, [(4, .int (nI (mkN f n E (by2 f p)))), (0, .ref ac), (1, .ref a), (2, .int (nI p)), (3, .int (nI i))], [.int ((nI p) + 6), .int (nI (mkN f n E (by2 f p))), .ref ac], M24)) rfl rfl rfl ?_
            rw [nI_add1 (p := p) (k := 6) (x := 6) rfl (by omega)]
            show pl _ _ _ (_, [(4, .int (nI (mkN f n E (by2 f p)))), (0, .ref ac), (1, .ref a), (2, .int (nI p)), (3, .int (nI i))], [.int (nI (p + 6)), .int (nI (mkN f n E (by2 f p))), .ref ac], M24) _
            refine ps_st (S' := (59, [(4, .int (nI (mkN f n E (by2 f p)))), (0, .ref ac), (1, .ref a), (2, .int (nI p)), (3, .int (nI i))], [.ref ac, .int (nI (p + 6)), .int (nI (mkN f n E (by2 f p))), .ref ac], M24)) rfl rfl rfl ?_
            refine ps_st (S' := (60, [(4, .int (nI (mkN f n E (by2 f p)))), (0, .ref ac), (1, .ref a), (2, .int (nI p)), (3, .int (nI i))], [.int (nI p), .ref ac, .int (nI (p + 6)), .int (nI (mkN f n E (by2 f p))), .ref ac], M24)) rfl rfl rfl ?_
            refine pl_call (a := [.ref ac, .int (nI p)]) (rest := [.int (nI (p + 6)), .int (nI (mkN f n E (by2 f p))), .ref ac]) rfl rfl rfl (dk_behind (f := f) (n := n) (q := q) (ac := ac) (c := c) (b := b) (da := da) (vd := vd) (s1 := (nI s'38)) (p := p) h39 h43 h44 (hn) (by omega)) (fun v54 M55 q56 => ?_)
            obtain ⟨rfl, rfl⟩ := q56
            show pl _ _ _ (63, [(4, .int (nI (mkN f n E (by2 f p)))), (0, .ref ac), (1, .ref a), (2, .int (nI p)), (3, .int (nI i))], [.int (nI (p + 6 + by4 f (p + 2))), .int (nI (p + 6)), .int (nI (mkN f n E (by2 f p))), .ref ac], M24) _
            refine pl_call (a := [.ref ac, .int (nI (mkN f n E (by2 f p))), .int (nI (p + 6)), .int (nI (p + 6 + by4 f (p + 2)))]) (rest := []) rfl rfl rfl (dk_formEnd (f := f) (n := n) (q := q) (ac := ac) (c := c) (b := b) (da := da) (vd := vd) (s1 := (nI s'38)) (k := (mkN f n E (by2 f p))) (p0 := (p + 6)) (e := (p + 6 + by4 f (p + 2))) h39 h43 h44 (hn) (by omega) (by omega)) (fun v57 M58 q59 => ?_)
            rcases q59 with q59 | q59
            · skip
              obtain ⟨q63_s, rfl, rfl⟩ := q59
              show pl _ _ _ (66, [(4, .int (nI (mkN f n E (by2 f p)))), (0, .ref ac), (1, .ref a), (2, .int (nI p)), (3, .int (nI i))], [.int (-1)], M24) _
              refine ps_st (S' := (67, [(4, .int (nI (mkN f n E (by2 f p)))), (0, .ref ac), (1, .ref a), (2, .int (nI p)), (3, .int (nI i))], [.ref ac, .int (-1)], M24)) rfl rfl rfl ?_
              refine ps_st (S' := (68, [(4, .int (nI (mkN f n E (by2 f p)))), (0, .ref ac), (1, .ref a), (2, .int (nI p)), (3, .int (nI i))], [.int (nI p), .ref ac, .int (-1)], M24)) rfl rfl rfl ?_
              refine pl_call (a := [.ref ac, .int (nI p)]) (rest := [.int (-1)]) rfl rfl rfl (dk_behind (f := f) (n := n) (q := q) (ac := ac) (c := c) (b := b) (da := da) (vd := vd) (s1 := (nI s'38)) (p := p) h39 h43 h44 (hn) (by omega)) (fun v60 M61 q62 => ?_)
              obtain ⟨rfl, rfl⟩ := q62
              show pl _ _ _ (71, [(4, .int (nI (mkN f n E (by2 f p)))), (0, .ref ac), (1, .ref a), (2, .int (nI p)), (3, .int (nI i))], [.int (nI (p + 6 + by4 f (p + 2))), .int (-1)], M24) _
              refine ps_if2 (S1 := (85, [(0, .ref ac), (1, .ref a), (2, .int (nI p)), (3, .int (nI i)), (4, .int (nI (mkN f n E (by2 f p))))], [], M24)) (S2 := (74, [(4, .int (nI (mkN f n E (by2 f p)))), (0, .ref ac), (1, .ref a), (2, .int (nI p)), (3, .int (nI i))], [], M24)) rfl rfl rfl (fun c_71 => ?_) (fun c_71 => ?_)
              · exact absurd (of_decide_eq_true c_71) (m1_ne (by omega))
              have hfe : ¬ s_fe f (mkN f n E (by2 f p)) (p + 6) (p + 6 + by4 f (p + 2)) = some (p + 6 + by4 f (p + 2)) := by rw [q63_s]; exact fun h => by cases h
              refine ps_st (S' := (75, [(4, .int (nI (mkN f n E (by2 f p)))), (0, .ref ac), (1, .ref a), (2, .int (nI p)), (3, .int (nI i))], [.ref ac], M24)) rfl rfl rfl ?_
              refine ps_get (S' := (78, [(4, .int (nI (mkN f n E (by2 f p)))), (0, .ref ac), (1, .ref a), (2, .int (nI p)), (3, .int (nI i))], [.ref vd], M24)) rfl h39 rfl rfl ?_
              refine ps_st (S' := (80, [(4, .int (nI (mkN f n E (by2 f p)))), (0, .ref ac), (1, .ref a), (2, .int (nI p)), (3, .int (nI i))], [.int 30, .ref vd], M24)) rfl rfl rfl ?_
              refine ps_st (S' := (81, [(4, .int (nI (mkN f n E (by2 f p)))), (0, .ref ac), (1, .ref a), (2, .int (nI p)), (3, .int (nI i))], [.int (nI p), .int 30, .ref vd], M24)) rfl rfl rfl ?_
              refine pl_call (a := [.ref vd, .int 30, .int (nI p)]) (rest := []) rfl rfl rfl (dk_wrong (vd := vd) (ru := ru) (wa := wa) (x1 := 30) (x2 := (nI p)) h40) (fun v63 M64 q65 => ?_)
              obtain ⟨rfl, h66, f67⟩ := q65
              have h69 := (f67.1 ac (nin1 (ob_ne h39 h40 (by decide)))).trans h39
              have h70 := (f67.1 b (nin1 (ob_ne h43 h40 (by decide)))).trans h43
              have h71 := (f67.1 da (nin1 (Ne.symm (ob_ar h40 h44)))).trans h44
              have h72 := (f67.1 c (nin1 (ob_ne h45 h40 (by decide)))).trans h45
              have h73 := (f67.1 a (nin1 (ob_ne h46 h40 (by decide)))).trans h46
              have hF74 := hF47.trf f67 (by intro z hz; simp only [List.mem_cons, List.not_mem_nil, or_false] at hz ⊢; try omega)
              have tp75 : M64.2.1 = t1 := by rw [f67.2]; exact tp48
              have hV76 := hV49.keep f67.gm (n7c h40 (by decide) (n7nil))
              have hV77 := hV50.keep f67.gm (nCc h40 (by decide) (nCn))
              show pl _ _ _ (84, [(4, .int (nI (mkN f n E (by2 f p)))), (0, .ref ac), (1, .ref a), (2, .int (nI p)), (3, .int (nI i))], [.int 0], M64) _
              exact ps_ret rfl rfl (Or.inr ⟨(30, p), by
                  rw [← hs9, maS_st (i := i) (by omega), q38_s]
                  dsimp only
                  rw [if_pos ⟨n_48, hfe⟩], rfl, h66, hF74, hF74.2⟩)
            · skip
              obtain ⟨x78, q63_s, q63_l, rfl, rfl⟩ := q59
              show pl _ _ _ (66, [(4, .int (nI (mkN f n E (by2 f p)))), (0, .ref ac), (1, .ref a), (2, .int (nI p)), (3, .int (nI i))], [.int (nI x78)], M24) _
              refine ps_st (S' := (67, [(4, .int (nI (mkN f n E (by2 f p)))), (0, .ref ac), (1, .ref a), (2, .int (nI p)), (3, .int (nI i))], [.ref ac, .int (nI x78)], M24)) rfl rfl rfl ?_
              refine ps_st (S' := (68, [(4, .int (nI (mkN f n E (by2 f p)))), (0, .ref ac), (1, .ref a), (2, .int (nI p)), (3, .int (nI i))], [.int (nI p), .ref ac, .int (nI x78)], M24)) rfl rfl rfl ?_
              refine pl_call (a := [.ref ac, .int (nI p)]) (rest := [.int (nI x78)]) rfl rfl rfl (dk_behind (f := f) (n := n) (q := q) (ac := ac) (c := c) (b := b) (da := da) (vd := vd) (s1 := (nI s'38)) (p := p) h39 h43 h44 (hn) (by omega)) (fun v79 M80 q81 => ?_)
              obtain ⟨rfl, rfl⟩ := q81
              show pl _ _ _ (71, [(4, .int (nI (mkN f n E (by2 f p)))), (0, .ref ac), (1, .ref a), (2, .int (nI p)), (3, .int (nI i))], [.int (nI (p + 6 + by4 f (p + 2))), .int (nI x78)], M24) _
              refine ps_if2 (S1 := (85, [(0, .ref ac), (1, .ref a), (2, .int (nI p)), (3, .int (nI i)), (4, .int (nI (mkN f n E (by2 f p))))], [], M24)) (S2 := (74, [(4, .int (nI (mkN f n E (by2 f p)))), (0, .ref ac), (1, .ref a), (2, .int (nI p)), (3, .int (nI i))], [], M24)) rfl rfl rfl (fun c_71 => ?_) (fun c_71 => ?_)
              · have c_71 : (nI x78) = (nI (p + 6 + by4 f (p + 2))) := of_decide_eq_true c_71
                have n_71 : x78 = p + 6 + by4 f (p + 2) := (eq_nI (p := x78) (n := p + 6 + by4 f (p + 2)) (by omega) (by omega)).mp c_71
                have hfe : s_fe f (mkN f n E (by2 f p)) (p + 6) (p + 6 + by4 f (p + 2)) = some (p + 6 + by4 f (p + 2)) := by rw [q63_s, n_71]
                have hb8 := (s_fe_in hfe).1
                refine ps_st (S' := (87, [(0, .ref ac), (1, .ref a), (2, .int (nI p)), (3, .int (nI i)), (4, .int (nI (mkN f n E (by2 f p))))], [.int (nI (mkN f n E (by2 f p)))], M24)) rfl rfl rfl ?_
                refine ps_st (S' := (88, [(0, .ref ac), (1, .ref a), (2, .int (nI p)), (3, .int (nI i)), (4, .int (nI (mkN f n E (by2 f p))))], [.int 2, .int (nI (mkN f n E (by2 f p)))], M24)) rfl rfl rfl ?_
                refine ps_if2 (S1 := (102, [(0, .ref ac), (1, .ref a), (2, .int (nI p)), (3, .int (nI i)), (4, .int (nI (mkN f n E (by2 f p))))], [], M24)) (S2 := (91, [(0, .ref ac), (1, .ref a), (2, .int (nI p)), (3, .int (nI i)), (4, .int (nI (mkN f n E (by2 f p))))], [], M24)) rfl rfl rfl (fun c_88 => ?_) (fun c_88 => ?_)
                · have c_88 : ¬ (nI (mkN f n E (by2 f p))) = 2 := of_decide_eq_true c_88
                  have n_88 : ¬ (mkN f n E (by2 f p) = 2) := fun h9 => c_88 ((eq_nI (p := mkN f n E (by2 f p)) (n := 2) (Nat.lt_trans (le_mk _ _ _ _) (by decide)) (by decide)).mpr h9)
                  have hk3 : mkN f n E (by2 f p) = 3 := by omega
                  refine ps_st (S' := (104, [(0, .ref ac), (1, .ref a), (2, .int (nI p)), (3, .int (nI i)), (4, .int (nI (mkN f n E (by2 f p))))], [.int (nI (mkN f n E (by2 f p)))], M24)) rfl rfl rfl ?_
                  refine ps_st (S' := (105, [(0, .ref ac), (1, .ref a), (2, .int (nI p)), (3, .int (nI i)), (4, .int (nI (mkN f n E (by2 f p))))], [.int 3, .int (nI (mkN f n E (by2 f p)))], M24)) rfl rfl rfl ?_
                  refine ps_if2 (S1 := (142, [(0, .ref ac), (1, .ref a), (2, .int (nI p)), (3, .int (nI i))], [], M24)) (S2 := (108, [(0, .ref ac), (1, .ref a), (2, .int (nI p)), (3, .int (nI i)), (4, .int (nI (mkN f n E (by2 f p))))], [], M24)) rfl rfl rfl (fun c_105 => ?_) (fun c_105 => ?_)
                  · exact absurd (of_decide_eq_true c_105) (fun h9 => h9 (congrArg nI hk3))
                  refine ps_st (S' := (109, [(0, .ref ac), (1, .ref a), (2, .int (nI p)), (3, .int (nI i)), (4, .int (nI (mkN f n E (by2 f p))))], [.ref a], M24)) rfl rfl rfl ?_
                  refine ps_st (S' := (110, [(0, .ref ac), (1, .ref a), (2, .int (nI p)), (3, .int (nI i)), (4, .int (nI (mkN f n E (by2 f p))))], [.ref ac, .ref a], M24)) rfl rfl rfl ?_
                  refine ps_get (S' := (113, [(0, .ref ac), (1, .ref a), (2, .int (nI p)), (3, .int (nI i)), (4, .int (nI (mkN f n E (by2 f p))))], [.ref b, .ref a], M24)) rfl h39 rfl rfl ?_
                  refine ps_st (S' := (114, [(0, .ref ac), (1, .ref a), (2, .int (nI p)), (3, .int (nI i)), (4, .int (nI (mkN f n E (by2 f p))))], [.int (nI p), .ref b, .ref a], M24)) rfl rfl rfl ?_
                  refine ps_st (S' := (116, [(0, .ref ac), (1, .ref a), (2, .int (nI p)), (3, .int (nI i)), (4, .int (nI (mkN f n E (by2 f p))))], [.int 6, .int (nI p), .ref b, .ref a], M24)) rfl rfl rfl ?_
                  refine ps_st (S' := (117, [(0, .ref ac), (1, .ref a), (2, .int (nI p)), (3, .int (nI i)), (4, .int (nI (mkN f n E (by2 f p))))], [.int ((nI p) + 6), .ref b, .ref a], M24)) rfl rfl rfl ?_
                  rw [nI_add1 (p := p) (k := 6) (x := 6) rfl (by omega)]
                  show pl _ _ _ (_, [(0, .ref ac), (1, .ref a), (2, .int (nI p)), (3, .int (nI i)), (4, .int (nI (mkN f n E (by2 f p))))], [.int (nI (p + 6)), .ref b, .ref a], M24) _
                  refine pl_call (a := [.ref b, .int (nI (p + 6))]) (rest := [.ref a]) rfl rfl rfl (dk_u2 (f := f) (n := n) (b := b) (da := da) (p := (p + 6)) h43 h44 (hn) (by omega)) (fun v82 M83 q84 => ?_)
                  obtain ⟨rfl, rfl⟩ := q84
                  show pl _ _ _ (120, [(0, .ref ac), (1, .ref a), (2, .int (nI p)), (3, .int (nI i)), (4, .int (nI (mkN f n E (by2 f p))))], [.int (nI (by2 f (p + 6))), .ref a], M24) _
                  have hu_117 := by2_lt f (p + 6)
                  refine ps_put (l' := [.int (nI b0), .int (nI (by2 f b0)), .int (nI (by2 f (b0 + 2))), .int (nI (by2 f (b0 + 4))), .int (nI (by2 f (b0 + 6))), .int (nI (b0 + 8)), .int kn2, .int co, .int (nI w), .int (nI (by2 f (p + 6))), cd2]) rfl h46 rfl rfl (fun M85 h86 f87 z88 => ?_)
                  have h89 := (f87 ac (ob_ne h39 h46 (by decide))).trans h39
                  have h90 := (f87 b (ob_ne h43 h46 (by decide))).trans h43
                  have h91 := (f87 da (Ne.symm (ob_ar h46 h44))).trans h44
                  have h92 := (f87 c (ob_ne h45 h46 (by decide))).trans h45
                  have h93 := (f87 vd (ob_ne h40 h46 (by decide))).trans h40
                  have hV94 := hV49.put h46 (by decide) f87 z88
                  have hV95 := hV50.put h46 (by decide) f87 z88
                  have hF96 := hF47.up (Or.inl (by simp)) f87 (by rw [z88]; exact Nat.le_refl _)
                  have tp97 : M85.2.1 = t1 := by rw [z88]; exact tp48
                  show pl _ _ _ (123, [(0, .ref ac), (1, .ref a), (2, .int (nI p)), (3, .int (nI i)), (4, .int (nI (mkN f n E (by2 f p))))], [], M85) _
                  have hb9 := (s_fe_in hfe).2.2.1 (by omega)
                  refine ps_st (S' := (124, [(0, .ref ac), (1, .ref a), (2, .int (nI p)), (3, .int (nI i)), (4, .int (nI (mkN f n E (by2 f p))))], [.ref ac], M85)) rfl rfl rfl ?_
                  refine ps_st (S' := (125, [(0, .ref ac), (1, .ref a), (2, .int (nI p)), (3, .int (nI i)), (4, .int (nI (mkN f n E (by2 f p))))], [.int (nI p), .ref ac], M85)) rfl rfl rfl ?_
                  refine pl_call (a := [.ref ac, .int (nI p)]) (rest := []) rfl rfl rfl (dk_areClasses (f := f) (n := n) (N := N) (q := q) (E := E) (ac := ac) (c := c) (b := b) (da := da) (vd := vd) (fr := fr) (mr := mr) (fa := fa) (ic := ic) (mj := mj) (na := na) (pa := pa) (mi := mi) (ru := ru) (wa := wa) (s1 := (nI s'38)) (k1 := k1) (k2 := k2) (k3 := k3) (k4 := k4) (k5 := k5) (k6 := k6) (k7 := k7) (p := p) h89 h90 h91 (hn) (by omega) (hV94)) (fun v98 M99 q100 => ?_)
                  obtain ⟨rfl, rfl⟩ := q100
                  show pl _ _ _ (128, [(0, .ref ac), (1, .ref a), (2, .int (nI p)), (3, .int (nI i)), (4, .int (nI (mkN f n E (by2 f p))))], [.int (nI (clA f E (p + 8) (by2 f (p + 6)) 0))], M85) _
                  refine ps_if (S1 := (142, [(0, .ref ac), (1, .ref a), (2, .int (nI p)), (3, .int (nI i))], [], M85)) (S2 := (131, [(0, .ref ac), (1, .ref a), (2, .int (nI p)), (3, .int (nI i)), (4, .int (nI (mkN f n E (by2 f p))))], [], M85)) rfl rfl rfl (fun c_128 => ?_) (fun c_128 => ?_)
                  · have c_128 : ¬ (nI (clA f E (p + 8) (by2 f (p + 6)) 0)) = 0 := of_decide_eq_true c_128
                    have n_128 : ¬ (clA f E (p + 8) (by2 f (p + 6)) 0 = 0) := fun h9 => c_128 ((eq_nI (p := clA f E (p + 8) (by2 f (p + 6)) 0) (n := 0) (Nat.lt_trans (le1_cl _ _ _ _ _) (by decide)) (by decide)).mpr h9)
                    refine ps_st (S' := (143, [(0, .ref ac), (1, .ref a), (2, .int (nI p)), (3, .int (nI i))], [.ref ac], M85)) rfl rfl rfl ?_
                    refine ps_st (S' := (144, [(0, .ref ac), (1, .ref a), (2, .int (nI p)), (3, .int (nI i))], [.int (nI p), .ref ac], M85)) rfl rfl rfl ?_
                    refine pl_call (a := [.ref ac, .int (nI p)]) (rest := []) rfl rfl rfl (dk_behind (f := f) (n := n) (q := q) (ac := ac) (c := c) (b := b) (da := da) (vd := vd) (s1 := (nI s'38)) (p := p) h89 h90 h91 (hn) (by omega)) (fun v101 M102 q103 => ?_)
                    obtain ⟨rfl, rfl⟩ := q103
                    show pl _ _ _ (147, [(0, .ref ac), (1, .ref a), (2, .int (nI p)), (3, .int (nI i))], [.int (nI (p + 6 + by4 f (p + 2)))], M85) _
                    refine ps_st (S' := (148, [(2, .int (nI (p + 6 + by4 f (p + 2)))), (0, .ref ac), (1, .ref a), (3, .int (nI i))], [], M85)) rfl rfl rfl ?_
                    refine ps_st (S' := (151, [(3, .int ((nI i) + 1)), (2, .int (nI (p + 6 + by4 f (p + 2)))), (0, .ref ac), (1, .ref a)], [], M85)) rfl rfl rfl ?_
                    rw [nI_add1 (p := i) (k := 1) (x := 1) rfl (by omega)]
                    show pl _ _ _ (_, [(3, .int (nI (i + 1))), (2, .int (nI (p + 6 + by4 f (p + 2)))), (0, .ref ac), (1, .ref a)], [], M85) _
                    refine ps_st (S' := (12, [(0, .ref ac), (1, .ref a), (2, .int (nI (p + 6 + by4 f (p + 2)))), (3, .int (nI (i + 1)))], [], M85)) rfl rfl rfl ?_
                    exact ih (i + 1) (p + 6 + by4 f (p + 2)) ((s'38)) (h) (t1) ((K.1 + 1, K.2.1, by2 f (p + 6))) (kn2) (cd2) M85 h89 h90 h91 h92 h93 h86 hV94 hV95 hF96 (tp97) (by omega) (by omega) (q38_l) (hh) (hq7) (by
                        rw [← hs9, maS_st (i := i) (by omega), q38_s]
                        dsimp only
                        rw [if_neg (fun h => h.2 hfe)]
                        rw [if_neg (by omega)]
                        rw [if_neg (by omega)]) (by
                        rw [← hu, maU_st (i := i) (p := p) (by omega), hk3, stM_3]) (by rw [nw_two q38_s (mk_3 _ _ _ _), if_neg n_48, hpc]) (by omega)
                  · have c_128 : ¬ (¬ (nI (clA f E (p + 8) (by2 f (p + 6)) 0)) = 0) := of_decide_eq_false c_128
                    have n_128 : clA f E (p + 8) (by2 f (p + 6)) 0 = 0 := (eq_nI (p := clA f E (p + 8) (by2 f (p + 6)) 0) (n := 0) (Nat.lt_trans (le1_cl _ _ _ _ _) (by decide)) (by decide)).mp (Decidable.not_not.mp c_128)
                    refine ps_st (S' := (132, [(0, .ref ac), (1, .ref a), (2, .int (nI p)), (3, .int (nI i)), (4, .int (nI (mkN f n E (by2 f p))))], [.ref ac], M85)) rfl rfl rfl ?_
                    refine ps_get (S' := (135, [(0, .ref ac), (1, .ref a), (2, .int (nI p)), (3, .int (nI i)), (4, .int (nI (mkN f n E (by2 f p))))], [.ref vd], M85)) rfl h89 rfl rfl ?_
                    refine ps_st (S' := (137, [(0, .ref ac), (1, .ref a), (2, .int (nI p)), (3, .int (nI i)), (4, .int (nI (mkN f n E (by2 f p))))], [.int 32, .ref vd], M85)) rfl rfl rfl ?_
                    refine ps_st (S' := (138, [(0, .ref ac), (1, .ref a), (2, .int (nI p)), (3, .int (nI i)), (4, .int (nI (mkN f n E (by2 f p))))], [.int (nI p), .int 32, .ref vd], M85)) rfl rfl rfl ?_
                    refine pl_call (a := [.ref vd, .int 32, .int (nI p)]) (rest := []) rfl rfl rfl (dk_wrong (vd := vd) (ru := ru) (wa := wa) (x1 := 32) (x2 := (nI p)) h93) (fun v104 M105 q106 => ?_)
                    obtain ⟨rfl, h107, f108⟩ := q106
                    have h110 := (f108.1 ac (nin1 (ob_ne h89 h93 (by decide)))).trans h89
                    have h111 := (f108.1 b (nin1 (ob_ne h90 h93 (by decide)))).trans h90
                    have h112 := (f108.1 da (nin1 (Ne.symm (ob_ar h93 h91)))).trans h91
                    have h113 := (f108.1 c (nin1 (ob_ne h92 h93 (by decide)))).trans h92
                    have h114 := (f108.1 a (nin1 (ob_ne h86 h93 (by decide)))).trans h86
                    have hF115 := hF96.trf f108 (by intro z hz; simp only [List.mem_cons, List.not_mem_nil, or_false] at hz ⊢; try omega)
                    have tp116 : M105.2.1 = t1 := by rw [f108.2]; exact tp97
                    have hV117 := hV94.keep f108.gm (n7c h93 (by decide) (n7nil))
                    have hV118 := hV95.keep f108.gm (nCc h93 (by decide) (nCn))
                    show pl _ _ _ (141, [(0, .ref ac), (1, .ref a), (2, .int (nI p)), (3, .int (nI i)), (4, .int (nI (mkN f n E (by2 f p))))], [.int 0], M105) _
                    exact ps_ret rfl rfl (Or.inr ⟨(32, p), by
                        rw [← hs9, maS_st (i := i) (by omega), q38_s]
                        dsimp only
                        rw [if_neg (fun h => h.2 hfe)]
                        rw [if_neg (by omega)]
                        rw [if_pos (by omega)], rfl, h107, hF115, hF115.2⟩)
                · have c_88 : ¬ (¬ (nI (mkN f n E (by2 f p))) = 2) := of_decide_eq_false c_88
                  have n_88 : mkN f n E (by2 f p) = 2 := (eq_nI (p := mkN f n E (by2 f p)) (n := 2) (Nat.lt_trans (le_mk _ _ _ _) (by decide)) (by decide)).mp (Decidable.not_not.mp c_88)
                  refine ps_st (S' := (92, [(0, .ref ac), (1, .ref a), (2, .int (nI p)), (3, .int (nI i)), (4, .int (nI (mkN f n E (by2 f p))))], [.ref ac], M24)) rfl rfl rfl ?_
                  refine ps_st (S' := (93, [(0, .ref ac), (1, .ref a), (2, .int (nI p)), (3, .int (nI i)), (4, .int (nI (mkN f n E (by2 f p))))], [.ref a, .ref ac], M24)) rfl rfl rfl ?_
                  refine ps_st (S' := (94, [(0, .ref ac), (1, .ref a), (2, .int (nI p)), (3, .int (nI i)), (4, .int (nI (mkN f n E (by2 f p))))], [.int (nI p), .ref a, .ref ac], M24)) rfl rfl rfl ?_
                  refine pl_call (a := [.ref ac, .ref a, .int (nI p)]) (rest := []) rfl rfl rfl (dk_codeHolds7 (f := f) (n := n) (N := N) (q := q) (E := E) (ac := ac) (c := c) (b := b) (da := da) (vd := vd) (fr := fr) (mr := mr) (fa := fa) (ic := ic) (mj := mj) (na := na) (pa := pa) (mi := mi) (ru := ru) (wa := wa) (k1 := k1) (k2 := k2) (k3 := k3) (k4 := k4) (k5 := k5) (k6 := k6) (k7 := k7) (a := a) (b0 := b0) (s := (s'38)) (w := w) (p := p) (e := (p + 6 + by4 f (p + 2))) (kn := kn2) (co := co) (ex := (nI K.2.2)) (cd := cd2) h39 h43 h44 h45 h40 h46 (hn) (hmj) (by omega) (hw) (by omega) ((s_fe_in hfe).2.2.2.2.2.2 n_88) (hV49) (by omega) (by omega) (by omega) (by omega) (by omega) (by omega) (by omega)) (fun v119 M120 q121 => ?_)
                  rcases q121 with q121 | q121
                  · skip
                    obtain ⟨e9122, q94_s, rfl, h123, f124, tp125⟩ := q121
                    rw [tp48] at tp125
                    have h126 := (f124.1 b (by omega) (nin3 (ob_ne h43 h39 (by decide)) (ob_ne h43 h40 (by decide)) (ob_ne h43 h46 (by decide)))).trans h43
                    have h127 := (f124.1 da (by omega) (nin3 (Ne.symm (ob_ar h39 h44)) (Ne.symm (ob_ar h40 h44)) (Ne.symm (ob_ar h46 h44)))).trans h44
                    have h128 := (f124.1 c (by omega) (nin3 (ob_ne h45 h39 (by decide)) (ob_ne h45 h40 (by decide)) (ob_ne h45 h46 (by decide)))).trans h45
                    have hF129 := hF47.tr f124 (by intro z hz; simp only [List.mem_cons, List.not_mem_nil, or_false] at hz ⊢; try omega)
                    have hV130 := hV49.keep f124 (n7c h39 (by decide) (n7c h40 (by decide) (n7c h46 (by decide) (n7nil))))
                    have hV131 := hV50.keep f124 (nCc h39 (by decide) (nCc h40 (by decide) (nCc h46 (by decide) (nCn))))
                    show pl _ _ _ (97, [(0, .ref ac), (1, .ref a), (2, .int (nI p)), (3, .int (nI i)), (4, .int (nI (mkN f n E (by2 f p))))], [.int 0], M120) _
                    refine ps_if (S1 := (102, [(0, .ref ac), (1, .ref a), (2, .int (nI p)), (3, .int (nI i)), (4, .int (nI (mkN f n E (by2 f p))))], [], M120)) (S2 := (100, [(0, .ref ac), (1, .ref a), (2, .int (nI p)), (3, .int (nI i)), (4, .int (nI (mkN f n E (by2 f p))))], [], M120)) rfl rfl rfl (fun c_97 => ?_) (fun c_97 => ?_)
                    · exact absurd (of_decide_eq_true c_97) (by decide)
                    refine ps_st (S' := (101, [(0, .ref ac), (1, .ref a), (2, .int (nI p)), (3, .int (nI i)), (4, .int (nI (mkN f n E (by2 f p))))], [.int 0], M120)) rfl rfl rfl ?_
                    exact ps_ret rfl rfl (Or.inr ⟨e9122, by
                        rw [← hs9, maS_st (i := i) (by omega), q38_s]
                        dsimp only
                        rw [if_neg (fun h => h.2 hfe)]
                        rw [if_pos (by omega), q94_s], rfl, h123, hF129, hF129.2⟩)
                  · skip
                    obtain ⟨s'132, q94_s, q94_l, rfl, h133, h134, h135, h136, h137, f138, tp139⟩ := q121
                    rw [tp48] at h135 h136 h137 tp139
                    have h140 := (f138.1 b (by omega) (nin3 (ob_ne h43 h39 (by decide)) (ob_ne h43 h40 (by decide)) (ob_ne h43 h46 (by decide)))).trans h43
                    have h141 := (f138.1 da (by omega) (nin3 (Ne.symm (ob_ar h39 h44)) (Ne.symm (ob_ar h40 h44)) (Ne.symm (ob_ar h46 h44)))).trans h44
                    have h142 := (f138.1 c (by omega) (nin3 (ob_ne h45 h39 (by decide)) (ob_ne h45 h40 (by decide)) (ob_ne h45 h46 (by decide)))).trans h45
                    have hF143 := hF47.tr f138 (by intro z hz; simp only [List.mem_cons, List.not_mem_nil, or_false] at hz ⊢; try omega)
                    have hV144 := hV49.keep f138 (n7c h39 (by decide) (n7c h40 (by decide) (n7c h46 (by decide) (n7nil))))
                    have hV145 := hV50.keep f138 (nCc h39 (by decide) (nCc h40 (by decide) (nCc h46 (by decide) (nCn))))
                    show pl _ _ _ (97, [(0, .ref ac), (1, .ref a), (2, .int (nI p)), (3, .int (nI i)), (4, .int (nI (mkN f n E (by2 f p))))], [.int 1], M120) _
                    have hC7 := CD0.of (lo := z0) (p := p) (by omega) (by omega) (by omega) h136 h137
                    refine ps_if (S1 := (102, [(0, .ref ac), (1, .ref a), (2, .int (nI p)), (3, .int (nI i)), (4, .int (nI (mkN f n E (by2 f p))))], [], M120)) (S2 := (100, [(0, .ref ac), (1, .ref a), (2, .int (nI p)), (3, .int (nI i)), (4, .int (nI (mkN f n E (by2 f p))))], [], M120)) rfl rfl rfl (fun c_97 => ?_) (fun c_97 => ?_)
                    rotate_left
                    · exact absurd (by decide) (of_decide_eq_false c_97)
                    refine ps_st (S' := (104, [(0, .ref ac), (1, .ref a), (2, .int (nI p)), (3, .int (nI i)), (4, .int (nI (mkN f n E (by2 f p))))], [.int (nI (mkN f n E (by2 f p)))], M120)) rfl rfl rfl ?_
                    refine ps_st (S' := (105, [(0, .ref ac), (1, .ref a), (2, .int (nI p)), (3, .int (nI i)), (4, .int (nI (mkN f n E (by2 f p))))], [.int 3, .int (nI (mkN f n E (by2 f p)))], M120)) rfl rfl rfl ?_
                    refine ps_if2 (S1 := (142, [(0, .ref ac), (1, .ref a), (2, .int (nI p)), (3, .int (nI i))], [], M120)) (S2 := (108, [(0, .ref ac), (1, .ref a), (2, .int (nI p)), (3, .int (nI i)), (4, .int (nI (mkN f n E (by2 f p))))], [], M120)) rfl rfl rfl (fun c_105 => ?_) (fun c_105 => ?_)
                    rotate_left
                    · exact absurd (show ¬ ((nI (mkN f n E (by2 f p))) = 3) from fun h9 => absurd ((eq_nI (p := mkN f n E (by2 f p)) (n := 3) (Nat.lt_trans (le_mk _ _ _ _) (by decide)) (by decide)).mp h9) (by omega)) (of_decide_eq_false c_105)
                    refine ps_st (S' := (143, [(0, .ref ac), (1, .ref a), (2, .int (nI p)), (3, .int (nI i))], [.ref ac], M120)) rfl rfl rfl ?_
                    refine ps_st (S' := (144, [(0, .ref ac), (1, .ref a), (2, .int (nI p)), (3, .int (nI i))], [.int (nI p), .ref ac], M120)) rfl rfl rfl ?_
                    refine pl_call (a := [.ref ac, .int (nI p)]) (rest := []) rfl rfl rfl (dk_behind (f := f) (n := n) (q := q) (ac := ac) (c := c) (b := b) (da := da) (vd := vd) (s1 := (nI s'132)) (p := p) h133 h140 h141 (hn) (by omega)) (fun v146 M147 q148 => ?_)
                    obtain ⟨rfl, rfl⟩ := q148
                    show pl _ _ _ (147, [(0, .ref ac), (1, .ref a), (2, .int (nI p)), (3, .int (nI i))], [.int (nI (p + 6 + by4 f (p + 2)))], M120) _
                    refine ps_st (S' := (148, [(2, .int (nI (p + 6 + by4 f (p + 2)))), (0, .ref ac), (1, .ref a), (3, .int (nI i))], [], M120)) rfl rfl rfl ?_
                    refine ps_st (S' := (151, [(3, .int ((nI i) + 1)), (2, .int (nI (p + 6 + by4 f (p + 2)))), (0, .ref ac), (1, .ref a)], [], M120)) rfl rfl rfl ?_
                    rw [nI_add1 (p := i) (k := 1) (x := 1) rfl (by omega)]
                    show pl _ _ _ (_, [(3, .int (nI (i + 1))), (2, .int (nI (p + 6 + by4 f (p + 2)))), (0, .ref ac), (1, .ref a)], [], M120) _
                    refine ps_st (S' := (12, [(0, .ref ac), (1, .ref a), (2, .int (nI (p + 6 + by4 f (p + 2)))), (3, .int (nI (i + 1)))], [], M120)) rfl rfl rfl ?_
                    exact ih (i + 1) (p + 6 + by4 f (p + 2)) ((s'132)) (1) (t1 + 2) ((K.1 + 1, p, K.2.2)) (kn2) (.ref t1) M120 h133 h140 h141 h142 h134 h135 hV144 hC7 hF143 (tp139) (by omega) (by omega) (q94_l) (Or.inr ⟨rfl, _, rfl⟩) (hq7) (by
                        rw [← hs9, maS_st (i := i) (by omega), q38_s]
                        dsimp only
                        rw [if_neg (fun h => h.2 hfe)]
                        rw [if_pos (by omega), q94_s]) (by
                        rw [← hu, maU_st (i := i) (p := p) (by omega), n_88, stM_2]) (by rw [cd_bits q94_s 2 (by decide), cd_bits q94_s 3 (by decide), nw_two q38_s (mk_3 _ _ _ _), if_neg n_48, hpc]) (by omega)
              · have c_71 : ¬ ((nI x78) = (nI (p + 6 + by4 f (p + 2)))) := of_decide_eq_false c_71
                have n_71 : ¬ (x78 = p + 6 + by4 f (p + 2)) := fun h9 => c_71 ((eq_nI (p := x78) (n := p + 6 + by4 f (p + 2)) (by omega) (by omega)).mpr h9)
                have hfe : ¬ s_fe f (mkN f n E (by2 f p)) (p + 6) (p + 6 + by4 f (p + 2)) = some (p + 6 + by4 f (p + 2)) := by rw [q63_s]; exact fun h => n_71 (Option.some.inj h)
                refine ps_st (S' := (75, [(4, .int (nI (mkN f n E (by2 f p)))), (0, .ref ac), (1, .ref a), (2, .int (nI p)), (3, .int (nI i))], [.ref ac], M24)) rfl rfl rfl ?_
                refine ps_get (S' := (78, [(4, .int (nI (mkN f n E (by2 f p)))), (0, .ref ac), (1, .ref a), (2, .int (nI p)), (3, .int (nI i))], [.ref vd], M24)) rfl h39 rfl rfl ?_
                refine ps_st (S' := (80, [(4, .int (nI (mkN f n E (by2 f p)))), (0, .ref ac), (1, .ref a), (2, .int (nI p)), (3, .int (nI i))], [.int 30, .ref vd], M24)) rfl rfl rfl ?_
                refine ps_st (S' := (81, [(4, .int (nI (mkN f n E (by2 f p)))), (0, .ref ac), (1, .ref a), (2, .int (nI p)), (3, .int (nI i))], [.int (nI p), .int 30, .ref vd], M24)) rfl rfl rfl ?_
                refine pl_call (a := [.ref vd, .int 30, .int (nI p)]) (rest := []) rfl rfl rfl (dk_wrong (vd := vd) (ru := ru) (wa := wa) (x1 := 30) (x2 := (nI p)) h40) (fun v149 M150 q151 => ?_)
                obtain ⟨rfl, h152, f153⟩ := q151
                have h155 := (f153.1 ac (nin1 (ob_ne h39 h40 (by decide)))).trans h39
                have h156 := (f153.1 b (nin1 (ob_ne h43 h40 (by decide)))).trans h43
                have h157 := (f153.1 da (nin1 (Ne.symm (ob_ar h40 h44)))).trans h44
                have h158 := (f153.1 c (nin1 (ob_ne h45 h40 (by decide)))).trans h45
                have h159 := (f153.1 a (nin1 (ob_ne h46 h40 (by decide)))).trans h46
                have hF160 := hF47.trf f153 (by intro z hz; simp only [List.mem_cons, List.not_mem_nil, or_false] at hz ⊢; try omega)
                have tp161 : M150.2.1 = t1 := by rw [f153.2]; exact tp48
                have hV162 := hV49.keep f153.gm (n7c h40 (by decide) (n7nil))
                have hV163 := hV50.keep f153.gm (nCc h40 (by decide) (nCn))
                show pl _ _ _ (84, [(4, .int (nI (mkN f n E (by2 f p)))), (0, .ref ac), (1, .ref a), (2, .int (nI p)), (3, .int (nI i))], [.int 0], M150) _
                exact ps_ret rfl rfl (Or.inr ⟨(30, p), by
                    rw [← hs9, maS_st (i := i) (by omega), q38_s]
                    dsimp only
                    rw [if_pos ⟨n_48, hfe⟩], rfl, h152, hF160, hF160.2⟩)
  refine ps_st (S' := (1, [(0, .ref ac), (1, .ref a)], [.ref ac], M)) rfl rfl rfl ?_
  refine ps_st (S' := (2, [(0, .ref ac), (1, .ref a)], [.int 0, .ref ac], M)) rfl rfl rfl ?_
  refine ps_put (l' := [.ref c, .ref b, .ref q, .ref vd, .int 0]) rfl h_ac rfl rfl (fun M164 h165 f166 z167 => ?_)
  have h168 := (f166 b (ob_ne h_b h_ac (by decide))).trans h_b
  have h169 := (f166 da (Ne.symm (ob_ar h_ac h_da))).trans h_da
  have h170 := (f166 c (ob_ne h_c h_ac (by decide))).trans h_c
  have h171 := (f166 vd (ob_ne h_vd h_ac (by decide))).trans h_vd
  have h172 := (f166 a (ob_ne h_a h_ac (by decide))).trans h_a
  have hV173 := hV.put h_ac (by decide) f166 z167
  have hV174 := hC.put h_ac (by decide) f166 z167
  have hF175 := hF.up (Or.inl (by simp)) f166 (by rw [z167]; exact Nat.le_refl _)
  have tp176 : M164.2.1 = z0 := by rw [z167]; exact tp0
  show pl _ _ _ (5, [(0, .ref ac), (1, .ref a)], [], M164) _
  refine ps_st (S' := (6, [(0, .ref ac), (1, .ref a)], [.ref a], M164)) rfl rfl rfl ?_
  refine ps_get (S' := (9, [(0, .ref ac), (1, .ref a)], [.int (nI (b0 + 8))], M164)) rfl h172 rfl rfl ?_
  refine ps_st (S' := (10, [(2, .int (nI (b0 + 8))), (0, .ref ac), (1, .ref a)], [], M164)) rfl rfl rfl ?_
  refine ps_st (S' := (11, [(2, .int (nI (b0 + 8))), (0, .ref ac), (1, .ref a)], [.int 0], M164)) rfl rfl rfl ?_
  refine ps_st (S' := (12, [(0, .ref ac), (1, .ref a), (2, .int (nI (b0 + 8))), (3, .int 0)], [], M164)) rfl rfl rfl ?_
  exact (LL kf) (0) (b0 + 8) (0) (0) (z0) ((0, 0, 0)) (kn) (.null) M164 h165 h168 h169 h170 h171 h172 hV173 hV174 hF175 (tp176) (Nat.le_refl _) (by omega) (by decide) (Or.inl ⟨rfl, rfl⟩) (hat) (rfl) (rfl) (by decide) (by omega)
set_option maxHeartbeats 1000000 in
theorem dk_fieldsHold7 {g : xe_G} {M : mi_H} {f : Nat → Int32} {n N q : Nat} {E : List (Nat × Nat)} {o c b da vd ac mr fa ic mj na pa : Nat} {mi ru wa k1 k2 k3 k4 k5 k6 k7 : Int32} {ox : Nat} {og ga gf : Nat} {gn gw : Int32} {gk : Value} {s1 : Int32} {B : List Nat} {G : Nat → Nat} {mm : Nat} {B2 : List Nat} {G2 : Nat → Nat} {m2 kk2 : Nat} (h_ox : M.1 ox = some (ob 8 [.ref q, .int (nI mj), .ref vd])) (h_og : M.1 og = some (ob 11 [.ref ga, .int gn, .ref gf, gk, .int gw])) (h_o : M.1 o = some (ob 2 [.ref c, .ref b, .ref q, .ref vd, .ref ac])) (h_c : M.1 c = some (ob 3 [.ref b, .ref q, .int mi, .int (nI mj), .int (nI fa), .int (nI ic), .ref mm, .ref mr, .int (nI na), .int (nI pa), .int k1, .int k2, .int k3, .int k4, .int k5, .int k6, .int k7])) (h_b : M.1 b = some (ob 1 [.ref da])) (h_da : M.1 da = some (ar .byte n f)) (h_vd : M.1 vd = some (ob 10 [.int ru, .int wa])) (h_ac : M.1 ac = some (ob 0 [.ref c, .ref b, .ref q, .ref vd, .int s1])) (hn : n ≤ 65540) (hmj : mj < 65536) (hfa : fa + 8 ≤ n) (hB9 : B.length < 65536) (hB : ∀ i, i < B.length → B.getD i 0 + 8 ≤ n ∧ ∃ e0, s_atts f n (by2 f (B.getD i 0 + 6)) (B.getD i 0 + 8) = .inr e0) (hD : ∀ i j, i < B.length → j < B2.length → ¬ G i = G2 j) (l_o : o < M.2.1) (l_c : c < M.2.1) (l_b : b < M.2.1) (l_da : da < M.2.1) (l_vd : vd < M.2.1) (l_ac : ac < M.2.1) (l_q : q < M.2.1) (l_ox : ox < M.2.1) (l_og : og < M.2.1) (hV : PV g f n N E q M) (hM : MV f B mm G 0 M) (hM2 : MV f B2 m2 G2 kk2 M) : pt (mT g) 57 [.ref o] M (fun v M' => (∃ (s2 : Int32), (flS f n E (by2 f fa) B B.length 0 = none) ∧ (PV g f n N E q M') ∧ (MV f B2 m2 G2 kk2 M') ∧ (MV f B mm G B.length M') ∧ (DF f n E B G B.length M') ∧ v = some (.int 1) ∧ M'.1 ox = some (ob 8 [.ref q, .int (nI mj), .ref vd]) ∧ M'.1 og = some (ob 11 [.ref ga, .int gn, .ref gf, gk, .int gw]) ∧ M'.1 o = some (ob 2 [.ref c, .ref b, .ref q, .ref vd, .ref ac]) ∧ M'.1 c = some (ob 3 [.ref b, .ref q, .int mi, .int (nI mj), .int (nI fa), .int (nI ic), .ref mm, .ref mr, .int (nI na), .int (nI pa), .int k1, .int k2, .int k3, .int k4, .int k5, .int k6, .int k7]) ∧ M'.1 b = some (ob 1 [.ref da]) ∧ M'.1 da = some (ar .byte n f) ∧ M'.1 vd = some (ob 10 [.int ru, .int wa]) ∧ M'.1 ac = some (ob 0 [.ref c, .ref b, .ref q, .ref vd, .int s2]) ∧ M.2.1 ≤ M'.2.1) ∨ (∃ (e9 : Nat × Nat), (flS f n E (by2 f fa) B B.length 0 = some e9) ∧ v = some (.int 0) ∧ M'.1 vd = some (ob 10 [.int (nI e9.1), .int (nI e9.2)]) ∧ M'.1 og = some (ob 11 [.ref ga, .int gn, .ref gf, gk, .int gw]) ∧ M.2.1 ≤ M'.2.1)) := by
  refine pt_in (b := mb_57 g) rfl (fun kf => ?_)
  show pl (mT g) kf (mb_57 g).2 (0, [(0, .ref o)], [], M) _
  obtain ⟨z0, tp0⟩ : ∃ z0, M.2.1 = z0 := ⟨_, rfl⟩
  have hDD : DF f n E B G 0 M := DF.nil
  have LL : ∀ (kf : Nat), (∀ (i t1 : Nat) (s2 : Int32) (M1 : mi_H), (M1.1 ox = some (ob 8 [.ref q, .int (nI mj), .ref vd])) → (M1.1 og = some (ob 11 [.ref ga, .int gn, .ref gf, gk, .int gw])) → (M1.1 o = some (ob 2 [.ref c, .ref b, .ref q, .ref vd, .ref ac])) → (M1.1 c = some (ob 3 [.ref b, .ref q, .int mi, .int (nI mj), .int (nI fa), .int (nI ic), .ref mm, .ref mr, .int (nI na), .int (nI pa), .int k1, .int k2, .int k3, .int k4, .int k5, .int k6, .int k7])) → (M1.1 b = some (ob 1 [.ref da])) → (M1.1 da = some (ar .byte n f)) → (M1.1 vd = some (ob 10 [.int ru, .int wa])) → (M1.1 ac = some (ob 0 [.ref c, .ref b, .ref q, .ref vd, .int s2])) → (PV g f n N E q M1) → (MV f B mm G i M1) → (MV f B2 m2 G2 kk2 M1) → (DF f n E B G i M1) → (M1.2.1 = t1) → (z0 ≤ t1) → (i ≤ B.length) → (flS f n E (by2 f fa) B (B.length - i) i = flS f n E (by2 f fa) B B.length 0) →  pl (mT g) kf (mb_57 g).2 (2, [(0, .ref o), (1, .int (nI i))], [], M1) (fun v M' => (∃ (s2 : Int32), (flS f n E (by2 f fa) B B.length 0 = none) ∧ (PV g f n N E q M') ∧ (MV f B2 m2 G2 kk2 M') ∧ (MV f B mm G B.length M') ∧ (DF f n E B G B.length M') ∧ v = some (.int 1) ∧ M'.1 ox = some (ob 8 [.ref q, .int (nI mj), .ref vd]) ∧ M'.1 og = some (ob 11 [.ref ga, .int gn, .ref gf, gk, .int gw]) ∧ M'.1 o = some (ob 2 [.ref c, .ref b, .ref q, .ref vd, .ref ac]) ∧ M'.1 c = some (ob 3 [.ref b, .ref q, .int mi, .int (nI mj), .int (nI fa), .int (nI ic), .ref mm, .ref mr, .int (nI na), .int (nI pa), .int k1, .int k2, .int k3, .int k4, .int k5, .int k6, .int k7]) ∧ M'.1 b = some (ob 1 [.ref da]) ∧ M'.1 da = some (ar .byte n f) ∧ M'.1 vd = some (ob 10 [.int ru, .int wa]) ∧ M'.1 ac = some (ob 0 [.ref c, .ref b, .ref q, .ref vd, .int s2]) ∧ M.2.1 ≤ M'.2.1) ∨ (∃ (e9 : Nat × Nat), (flS f n E (by2 f fa) B B.length 0 = some e9) ∧ v = some (.int 0) ∧ M'.1 vd = some (ob 10 [.int (nI e9.1), .int (nI e9.2)]) ∧ M'.1 og = some (ob 11 [.ref ga, .int gn, .ref gf, gk, .int gw]) ∧ M.2.1 ≤ M'.2.1))) := by
    intro kf
    induction kf with
    | zero => exact (by intros; exact pl_0)
    | succ kf ih =>
      intro i t1 s2 M1 hl_ox hl_og hl_o hl_c hl_b hl_da hl_vd hl_ac hV1 hM1 hM21 hDD1 tp1 ht hi hs
      refine ps_st1 (S' := (3, [(0, .ref o), (1, .int (nI i))], [.int (nI i)], M1)) rfl rfl rfl ?_
      obtain ⟨R, h_mm, hR⟩ := hM1.2.1
      have l_mm := hM1.1
      refine ps_st (S' := (4, [(0, .ref o), (1, .int (nI i))], [.ref o, .int (nI i)], M1)) rfl rfl rfl ?_
      refine ps_get (S' := (7, [(0, .ref o), (1, .int (nI i))], [.ref c, .int (nI i)], M1)) rfl hl_o rfl rfl ?_
      refine ps_get (S' := (10, [(0, .ref o), (1, .int (nI i))], [.ref mm, .int (nI i)], M1)) rfl hl_c rfl rfl ?_
      refine ps_aalen (S' := (11, [(0, .ref o), (1, .int (nI i))], [.int (nI B.length), .int (nI i)], M1)) rfl h_mm rfl ?_
      refine ps_if2 (S1 := (59, [(0, .ref o), (1, .int (nI i))], [], M1)) (S2 := (14, [(0, .ref o), (1, .int (nI i))], [], M1)) rfl rfl rfl (fun c_11 => ?_) (fun c_11 => ?_)
      · have c_11 : (nI B.length) ≤ (nI i) := of_decide_eq_true c_11
        have n_11 : B.length ≤ i := (le_nI (p := B.length) (n := i) (by omega) (by omega)).mp c_11
        refine ps_st (S' := (60, [(0, .ref o), (1, .int (nI i))], [.int 1], M1)) rfl rfl rfl ?_
        exact ps_ret rfl rfl (Or.inl ⟨s2, by rw [← hs, show B.length - i = 0 by omega]; rfl, hV1, hM21, hM1.le (by omega), by rw [show B.length = i by omega]; exact hDD1, rfl, hl_ox, hl_og, hl_o, hl_c, hl_b, hl_da, hl_vd, hl_ac, by omega⟩)
      · have c_11 : ¬ ((nI B.length) ≤ (nI i)) := of_decide_eq_false c_11
        have n_11 : ¬ (B.length ≤ i) := fun h9 => c_11 ((le_nI (p := B.length) (n := i) (by omega) (by omega)).mpr h9)
        refine ps_st (S' := (15, [(0, .ref o), (1, .int (nI i))], [.ref o], M1)) rfl rfl rfl ?_
        refine ps_get (S' := (18, [(0, .ref o), (1, .int (nI i))], [.ref c], M1)) rfl hl_o rfl rfl ?_
        refine ps_get (S' := (21, [(0, .ref o), (1, .int (nI i))], [.ref mm], M1)) rfl hl_c rfl rfl ?_
        refine ps_st (S' := (22, [(0, .ref o), (1, .int (nI i))], [.int (nI i), .ref mm], M1)) rfl rfl rfl ?_
        obtain ⟨hl8, y1, y2, y3, y4, yv, hc8, hv8⟩ := hM1.2.2.2 i (by omega)
        obtain ⟨rfl, rfl, rfl, rfl, rfl⟩ := hv8 (Nat.le_refl _)
        obtain ⟨a, ha⟩ : ∃ a, G i = a := ⟨_, rfl⟩
        rw [ha] at hc8 hl8
        have hA : G i = a ∧ i < B.length ∧ i < i + 1 := ⟨ha, by omega, by omega⟩
        have hI9 := hM1.2.2.1
        have hM9 := hM1.le (Nat.le_succ i)
        have hb0 : B.getD i 0 = B.getD i 0 := rfl
        have hDa : ∀ j, j < B2.length → ¬ G2 j = a := fun j hj e9 => hD i j (by omega) hj (ha.trans e9.symm)
        have hDo : ∀ j, j < B2.length → j < B2.length → ¬ G2 j = a := fun j hj _ => hDa j hj
        have hDk : ∀ j, j < i → j < B.length → ¬ G j = a := fun j hj hb e9 => absurd (hI9 j i hb (by omega) (e9.trans ha.symm)) (by omega)
        obtain ⟨hb1, e0, hat⟩ := hB i (by omega)
        refine ps_aald (S' := (23, [(0, .ref o), (1, .int (nI i))], [.ref a], M1)) rfl h_mm (⟨by omega, by rw [hR i (by omega), ha]⟩) rfl ?_
        refine ps_st (S' := (24, [(2, .ref a), (0, .ref o), (1, .int (nI i))], [], M1)) rfl rfl rfl ?_
        refine ps_st (S' := (25, [(2, .ref a), (0, .ref o), (1, .int (nI i))], [.ref a], M1)) rfl rfl rfl ?_
        refine ps_st (S' := (31, [(2, .ref a), (0, .ref o), (1, .int (nI i))], [], M1)) rfl rfl rfl ?_
        refine ps_st (S' := (32, [(2, .ref a), (0, .ref o), (1, .int (nI i))], [.ref o], M1)) rfl rfl rfl ?_
        refine ps_st (S' := (33, [(2, .ref a), (0, .ref o), (1, .int (nI i))], [.ref a, .ref o], M1)) rfl rfl rfl ?_
        refine ps_st (S' := (34, [(2, .ref a), (0, .ref o), (1, .int (nI i))], [.int (nI i), .ref a, .ref o], M1)) rfl rfl rfl ?_
        refine pl_call (a := [.ref o, .ref a, .int (nI i)]) (rest := []) rfl rfl rfl (dk_fieldHolds (f := f) (n := n) (N := N) (q := q) (E := E) (o := o) (c := c) (b := b) (da := da) (vd := vd) (ac := ac) (mr := mr) (fa := fa) (ic := ic) (mj := mj) (na := na) (pa := pa) (mi := mi) (ru := ru) (wa := wa) (k1 := k1) (k2 := k2) (k3 := k3) (k4 := k4) (k5 := k5) (k6 := k6) (k7 := k7) (a := a) (b0 := (B.getD i 0)) (kn := 0) (co := 0) (ap := 0) (ex := 0) (cd := .null) (B := B) (G := G) (mm := mm) (kk := (i + 1)) (i0 := i) hl_o hl_c hl_b hl_da hl_vd hc8 (hn) (hmj) (hfa) (hA) (rfl) (hB9) (hb1) (hV1) (hM9)) (fun v1 M2 q3 => ?_)
        rcases q3 with q3 | q3
        · skip
          obtain ⟨q34_s, rfl, h4, f5⟩ := q3
          have h7 := (f5.1 ox (nin1 (ob_ne hl_ox hl_vd (by decide)))).trans hl_ox
          have h8 := (f5.1 og (nin1 (ob_ne hl_og hl_vd (by decide)))).trans hl_og
          have h9 := (f5.1 o (nin1 (ob_ne hl_o hl_vd (by decide)))).trans hl_o
          have h10 := (f5.1 c (nin1 (ob_ne hl_c hl_vd (by decide)))).trans hl_c
          have h11 := (f5.1 b (nin1 (ob_ne hl_b hl_vd (by decide)))).trans hl_b
          have h12 := (f5.1 da (nin1 (Ne.symm (ob_ar hl_vd hl_da)))).trans hl_da
          have h13 := (f5.1 ac (nin1 (ob_ne hl_ac hl_vd (by decide)))).trans hl_ac
          have h14 := (f5.1 mm (nin1 (Ne.symm (ob_ro hl_vd h_mm)))).trans h_mm
          have h15 := (f5.1 a (nin1 (ob_ne hc8 hl_vd (by decide)))).trans hc8
          have tp17 : M2.2.1 = t1 := by rw [f5.2]; exact tp1
          have hV18 := hV1.keep f5.gm (n7c hl_vd (by decide) (n7nil))
          have hV19 := hM9.keep f5.gm (n6o hl_vd (by decide) (n6on))
          have hV20 := hM21.keep f5.gm (n6o hl_vd (by decide) (n6on))
          have hV21 := hDD1.keep f5.gm (nDc hl_vd (by decide) (nDn))
          show pl _ _ _ (37, [(2, .ref a), (0, .ref o), (1, .int (nI i))], [.int 1], M2) _
          refine ps_if (S1 := (51, [], [], M2)) (S2 := (40, [(2, .ref a), (0, .ref o), (1, .int (nI i))], [], M2)) rfl rfl rfl (fun c_37 => ?_) (fun c_37 => ?_)
          · exact absurd (of_decide_eq_true c_37) (by decide)
          refine ps_st (S' := (41, [(2, .ref a), (0, .ref o), (1, .int (nI i))], [.ref o], M2)) rfl rfl rfl ?_
          refine ps_get (S' := (44, [(2, .ref a), (0, .ref o), (1, .int (nI i))], [.ref ac], M2)) rfl h9 rfl rfl ?_
          refine ps_st (S' := (45, [(2, .ref a), (0, .ref o), (1, .int (nI i))], [.ref a, .ref ac], M2)) rfl rfl rfl ?_
          refine pl_call (a := [.ref ac, .ref a]) (rest := []) rfl rfl rfl (dk_ofField7 (f := f) (n := n) (N := N) (q := q) (E := E) (ac := ac) (c := c) (b := b) (da := da) (vd := vd) (fr := mm) (mr := mr) (fa := fa) (ic := ic) (mj := mj) (na := na) (pa := pa) (mi := mi) (ru := ru) (wa := wa) (s1 := s2) (k1 := k1) (k2 := k2) (k3 := k3) (k4 := k4) (k5 := k5) (k6 := k6) (k7 := k7) (a := a) (b0 := (B.getD i 0)) (e0 := e0) (kn := 0) (ap := 0) (ex := 0) (cd := .null) h13 h11 h12 h10 h4 h15 (hn) (hmj) (hb1) (hat) (hV18)) (fun v22 M23 q24 => ?_)
          rcases q24 with q24 | q24
          · skip
            obtain ⟨s225, K26, q45_s, q45_U, rfl, h27, h28, h29, f30⟩ := q24
            have h32 := (f30.1 ox (nin3 (ob_ne h7 h13 (by decide)) (ob_ne h7 h4 (by decide)) (ob_ne h7 h15 (by decide)))).trans h7
            have h33 := (f30.1 og (nin3 (ob_ne h8 h13 (by decide)) (ob_ne h8 h4 (by decide)) (ob_ne h8 h15 (by decide)))).trans h8
            have h34 := (f30.1 o (nin3 (ob_ne h9 h13 (by decide)) (ob_ne h9 h4 (by decide)) (ob_ne h9 h15 (by decide)))).trans h9
            have h35 := (f30.1 c (nin3 (ob_ne h10 h13 (by decide)) (ob_ne h10 h4 (by decide)) (ob_ne h10 h15 (by decide)))).trans h10
            have h36 := (f30.1 b (nin3 (ob_ne h11 h13 (by decide)) (ob_ne h11 h4 (by decide)) (ob_ne h11 h15 (by decide)))).trans h11
            have h37 := (f30.1 da (nin3 (Ne.symm (ob_ar h13 h12)) (Ne.symm (ob_ar h4 h12)) (Ne.symm (ob_ar h15 h12)))).trans h12
            have h38 := (f30.1 mm (nin3 (Ne.symm (ob_ro h13 h14)) (Ne.symm (ob_ro h4 h14)) (Ne.symm (ob_ro h15 h14)))).trans h14
            have tp40 : M23.2.1 = t1 := by rw [f30.2]; exact tp17
            have hV41 := hV18.keep f30.gm (n7c h13 (by decide) (n7c h4 (by decide) (n7c h15 (by decide) (n7nil))))
            have hV42 := hV19.keepA f30.gm (n6c h13 (by decide) (n6c h4 (by decide) (n6a (n6nil)))) hA h29 hb0
            have hV43 := hV20.keepB f30.gm (n6c h13 (by decide) (n6c h4 (by decide) (n6a (n6nil)))) h15 hDa
            have hV44 := hV21.keep f30.gm (nDc h13 (by decide) (nDc h4 (by decide) (nDa h15 hDk (nDn))))
            show pl _ _ _ (48, [(2, .ref a), (0, .ref o), (1, .int (nI i))], [.int 1], M23) _
            refine ps_if (S1 := (53, [(0, .ref o), (1, .int (nI i))], [], M23)) (S2 := (51, [], [], M23)) rfl rfl rfl (fun c_48 => ?_) (fun c_48 => ?_)
            rotate_left
            · exact absurd (by decide) (of_decide_eq_false c_48)
            refine ps_st (S' := (56, [(1, .int ((nI i) + 1)), (0, .ref o)], [], M23)) rfl rfl rfl ?_
            rw [nI_add1 (p := i) (k := 1) (x := 1) rfl (by omega)]
            show pl _ _ _ (_, [(1, .int (nI (i + 1))), (0, .ref o)], [], M23) _
            refine ps_st (S' := (2, [(0, .ref o), (1, .int (nI (i + 1)))], [], M23)) rfl rfl rfl ?_
            have hK9 : fK f n E (B.getD i 0) = K26 := q45_U
            have hc7 := h29
            have hDD9 := hV44.snoc ha (by omega) (by rw [hK9]; exact hc7)
            exact ih (i + 1) (t1) (s225) M23 h32 h33 h34 h35 h36 h37 h27 h28 hV41 hV42 hV43 hDD9  (tp40) (by omega) (by omega) (by
                rw [← hs, flS_st (i := i) (by omega)]
                rw [q34_s]
                try dsimp only
                rw [q45_s]
                try dsimp only
                first | done | rfl)
          · skip
            obtain ⟨e945, q45_s, rfl, h46, f47⟩ := q24
            have h49 := (f47.1 ox (nin3 (ob_ne h7 h13 (by decide)) (ob_ne h7 h4 (by decide)) (ob_ne h7 h15 (by decide)))).trans h7
            have h50 := (f47.1 og (nin3 (ob_ne h8 h13 (by decide)) (ob_ne h8 h4 (by decide)) (ob_ne h8 h15 (by decide)))).trans h8
            have h51 := (f47.1 o (nin3 (ob_ne h9 h13 (by decide)) (ob_ne h9 h4 (by decide)) (ob_ne h9 h15 (by decide)))).trans h9
            have h52 := (f47.1 c (nin3 (ob_ne h10 h13 (by decide)) (ob_ne h10 h4 (by decide)) (ob_ne h10 h15 (by decide)))).trans h10
            have h53 := (f47.1 b (nin3 (ob_ne h11 h13 (by decide)) (ob_ne h11 h4 (by decide)) (ob_ne h11 h15 (by decide)))).trans h11
            have h54 := (f47.1 da (nin3 (Ne.symm (ob_ar h13 h12)) (Ne.symm (ob_ar h4 h12)) (Ne.symm (ob_ar h15 h12)))).trans h12
            have h55 := (f47.1 mm (nin3 (Ne.symm (ob_ro h13 h14)) (Ne.symm (ob_ro h4 h14)) (Ne.symm (ob_ro h15 h14)))).trans h14
            have tp57 : M23.2.1 = t1 := by rw [f47.2]; exact tp17
            have hV58 := hV18.keep f47.gm (n7c h13 (by decide) (n7c h4 (by decide) (n7c h15 (by decide) (n7nil))))
            have hV59 := hV20.keepB f47.gm (n6c h13 (by decide) (n6c h4 (by decide) (n6a (n6nil)))) h15 hDa
            have hV60 := hV21.keep f47.gm (nDc h13 (by decide) (nDc h4 (by decide) (nDa h15 hDk (nDn))))
            show pl _ _ _ (48, [(2, .ref a), (0, .ref o), (1, .int (nI i))], [.int 0], M23) _
            refine ps_if (S1 := (53, [(0, .ref o), (1, .int (nI i))], [], M23)) (S2 := (51, [], [], M23)) rfl rfl rfl (fun c_48 => ?_) (fun c_48 => ?_)
            · exact absurd (of_decide_eq_true c_48) (by decide)
            refine ps_st (S' := (52, [], [.int 0], M23)) rfl rfl rfl ?_
            exact ps_ret rfl rfl (Or.inr ⟨e945, by
                rw [← hs, flS_st (i := i) (by omega)]
                rw [q34_s]
                try dsimp only
                rw [q45_s]
                try dsimp only
                first | done | rfl, rfl, h46, h50, by omega⟩)
        · skip
          obtain ⟨e61, q34_s, rfl, h62, f63⟩ := q3
          have h65 := (f63.1 ox (nin1 (ob_ne hl_ox hl_vd (by decide)))).trans hl_ox
          have h66 := (f63.1 og (nin1 (ob_ne hl_og hl_vd (by decide)))).trans hl_og
          have h67 := (f63.1 o (nin1 (ob_ne hl_o hl_vd (by decide)))).trans hl_o
          have h68 := (f63.1 c (nin1 (ob_ne hl_c hl_vd (by decide)))).trans hl_c
          have h69 := (f63.1 b (nin1 (ob_ne hl_b hl_vd (by decide)))).trans hl_b
          have h70 := (f63.1 da (nin1 (Ne.symm (ob_ar hl_vd hl_da)))).trans hl_da
          have h71 := (f63.1 ac (nin1 (ob_ne hl_ac hl_vd (by decide)))).trans hl_ac
          have h72 := (f63.1 mm (nin1 (Ne.symm (ob_ro hl_vd h_mm)))).trans h_mm
          have h73 := (f63.1 a (nin1 (ob_ne hc8 hl_vd (by decide)))).trans hc8
          have tp75 : M2.2.1 = t1 := by rw [f63.2]; exact tp1
          have hV76 := hV1.keep f63.gm (n7c hl_vd (by decide) (n7nil))
          have hV77 := hM9.keep f63.gm (n6o hl_vd (by decide) (n6on))
          have hV78 := hM21.keep f63.gm (n6o hl_vd (by decide) (n6on))
          have hV79 := hDD1.keep f63.gm (nDc hl_vd (by decide) (nDn))
          show pl _ _ _ (37, [(2, .ref a), (0, .ref o), (1, .int (nI i))], [.int 0], M2) _
          refine ps_if (S1 := (51, [], [], M2)) (S2 := (40, [(2, .ref a), (0, .ref o), (1, .int (nI i))], [], M2)) rfl rfl rfl (fun c_37 => ?_) (fun c_37 => ?_)
          rotate_left
          · exact absurd (by decide) (of_decide_eq_false c_37)
          refine ps_st (S' := (52, [], [.int 0], M2)) rfl rfl rfl ?_
          exact ps_ret rfl rfl (Or.inr ⟨e61, by
              rw [← hs, flS_st (i := i) (by omega)]
              rw [q34_s]
              try dsimp only
              first | done | rfl, rfl, h62, h66, by omega⟩)
  refine ps_st (S' := (1, [(0, .ref o)], [.int 0], M)) rfl rfl rfl ?_
  refine ps_st (S' := (2, [(0, .ref o), (1, .int 0)], [], M)) rfl rfl rfl ?_
  exact (LL kf) (0) (z0) (s1) M h_ox h_og h_o h_c h_b h_da h_vd h_ac hV hM hM2 hDD  (tp0) (Nat.le_refl _) (by omega) (rfl)
set_option maxHeartbeats 1000000 in
theorem dk_methodsHold7 {g : xe_G} {M : mi_H} {f : Nat → Int32} {n N q : Nat} {E : List (Nat × Nat)} {o c b da vd ac fr fa ic mj na pa : Nat} {mi ru wa k1 k2 k3 k4 k5 k6 k7 : Int32} {ox : Nat} {og ga gf : Nat} {gn gw : Int32} {gk : Value} {s1 : Int32} {B : List Nat} {G : Nat → Nat} {mm : Nat} {B2 : List Nat} {G2 : Nat → Nat} {m2 kk2 : Nat} (h_ox : M.1 ox = some (ob 8 [.ref q, .int (nI mj), .ref vd])) (h_og : M.1 og = some (ob 11 [.ref ga, .int gn, .ref gf, gk, .int gw])) (h_o : M.1 o = some (ob 2 [.ref c, .ref b, .ref q, .ref vd, .ref ac])) (h_c : M.1 c = some (ob 3 [.ref b, .ref q, .int mi, .int (nI mj), .int (nI fa), .int (nI ic), .ref fr, .ref mm, .int (nI na), .int (nI pa), .int k1, .int k2, .int k3, .int k4, .int k5, .int k6, .int k7])) (h_b : M.1 b = some (ob 1 [.ref da])) (h_da : M.1 da = some (ar .byte n f)) (h_vd : M.1 vd = some (ob 10 [.int ru, .int wa])) (h_ac : M.1 ac = some (ob 0 [.ref c, .ref b, .ref q, .ref vd, .int s1])) (hn : n ≤ 65540) (hmj : mj < 65536) (hfa : fa + 8 ≤ n) (hB9 : B.length < 65536) (hB : ∀ i, i < B.length → B.getD i 0 + 8 ≤ n ∧ ∃ e0, s_atts f n (by2 f (B.getD i 0 + 6)) (B.getD i 0 + 8) = .inr e0) (hD : ∀ i j, i < B.length → j < B2.length → ¬ G i = G2 j) (l_o : o < M.2.1) (l_c : c < M.2.1) (l_b : b < M.2.1) (l_da : da < M.2.1) (l_vd : vd < M.2.1) (l_ac : ac < M.2.1) (l_q : q < M.2.1) (l_ox : ox < M.2.1) (l_og : og < M.2.1) (hV : PV g f n N E q M) (hM : MV f B mm G 0 M) (hM2 : MV f B2 m2 G2 kk2 M) (hDO : DF f n E B2 G2 B2.length M) : pt (mT g) 67 [.ref o] M (fun v M' => (∃ (s2 : Int32), (mtS f n E (by2 f fa) mj B B.length 0 = none) ∧ (PV g f n N E q M') ∧ (MV f B2 m2 G2 kk2 M') ∧ (MV f B mm G B.length M') ∧ (DM f n E mj q b B G B.length M'.2.1 M') ∧ (DF f n E B2 G2 B2.length M') ∧ v = some (.int 1) ∧ M'.1 ox = some (ob 8 [.ref q, .int (nI mj), .ref vd]) ∧ M'.1 og = some (ob 11 [.ref ga, .int gn, .ref gf, gk, .int gw]) ∧ M'.1 o = some (ob 2 [.ref c, .ref b, .ref q, .ref vd, .ref ac]) ∧ M'.1 c = some (ob 3 [.ref b, .ref q, .int mi, .int (nI mj), .int (nI fa), .int (nI ic), .ref fr, .ref mm, .int (nI na), .int (nI pa), .int k1, .int k2, .int k3, .int k4, .int k5, .int k6, .int k7]) ∧ M'.1 b = some (ob 1 [.ref da]) ∧ M'.1 da = some (ar .byte n f) ∧ M'.1 vd = some (ob 10 [.int ru, .int wa]) ∧ M'.1 ac = some (ob 0 [.ref c, .ref b, .ref q, .ref vd, .int s2]) ∧ M.2.1 ≤ M'.2.1) ∨ (∃ (e9 : Nat × Nat), (mtS f n E (by2 f fa) mj B B.length 0 = some e9) ∧ v = some (.int 0) ∧ M'.1 vd = some (ob 10 [.int (nI e9.1), .int (nI e9.2)]) ∧ M'.1 og = some (ob 11 [.ref ga, .int gn, .ref gf, gk, .int gw]) ∧ M.2.1 ≤ M'.2.1)) := by
  refine pt_in (b := mb_67 g) rfl (fun kf => ?_)
  show pl (mT g) kf (mb_67 g).2 (0, [(0, .ref o)], [], M) _
  obtain ⟨z0, tp0⟩ : ∃ z0, M.2.1 = z0 := ⟨_, rfl⟩
  have hDD : DM f n E mj q b B G 0 z0 M := DM.nil
  have LL : ∀ (kf : Nat), (∀ (i t1 : Nat) (s2 : Int32) (M1 : mi_H), (M1.1 ox = some (ob 8 [.ref q, .int (nI mj), .ref vd])) → (M1.1 og = some (ob 11 [.ref ga, .int gn, .ref gf, gk, .int gw])) → (M1.1 o = some (ob 2 [.ref c, .ref b, .ref q, .ref vd, .ref ac])) → (M1.1 c = some (ob 3 [.ref b, .ref q, .int mi, .int (nI mj), .int (nI fa), .int (nI ic), .ref fr, .ref mm, .int (nI na), .int (nI pa), .int k1, .int k2, .int k3, .int k4, .int k5, .int k6, .int k7])) → (M1.1 b = some (ob 1 [.ref da])) → (M1.1 da = some (ar .byte n f)) → (M1.1 vd = some (ob 10 [.int ru, .int wa])) → (M1.1 ac = some (ob 0 [.ref c, .ref b, .ref q, .ref vd, .int s2])) → (PV g f n N E q M1) → (MV f B mm G i M1) → (MV f B2 m2 G2 kk2 M1) → (DF f n E B2 G2 B2.length M1) → (DM f n E mj q b B G i t1 M1) → (M1.2.1 = t1) → (z0 ≤ t1) → (i ≤ B.length) → (mtS f n E (by2 f fa) mj B (B.length - i) i = mtS f n E (by2 f fa) mj B B.length 0) →  pl (mT g) kf (mb_67 g).2 (2, [(0, .ref o), (1, .int (nI i))], [], M1) (fun v M' => (∃ (s2 : Int32), (mtS f n E (by2 f fa) mj B B.length 0 = none) ∧ (PV g f n N E q M') ∧ (MV f B2 m2 G2 kk2 M') ∧ (MV f B mm G B.length M') ∧ (DM f n E mj q b B G B.length M'.2.1 M') ∧ (DF f n E B2 G2 B2.length M') ∧ v = some (.int 1) ∧ M'.1 ox = some (ob 8 [.ref q, .int (nI mj), .ref vd]) ∧ M'.1 og = some (ob 11 [.ref ga, .int gn, .ref gf, gk, .int gw]) ∧ M'.1 o = some (ob 2 [.ref c, .ref b, .ref q, .ref vd, .ref ac]) ∧ M'.1 c = some (ob 3 [.ref b, .ref q, .int mi, .int (nI mj), .int (nI fa), .int (nI ic), .ref fr, .ref mm, .int (nI na), .int (nI pa), .int k1, .int k2, .int k3, .int k4, .int k5, .int k6, .int k7]) ∧ M'.1 b = some (ob 1 [.ref da]) ∧ M'.1 da = some (ar .byte n f) ∧ M'.1 vd = some (ob 10 [.int ru, .int wa]) ∧ M'.1 ac = some (ob 0 [.ref c, .ref b, .ref q, .ref vd, .int s2]) ∧ M.2.1 ≤ M'.2.1) ∨ (∃ (e9 : Nat × Nat), (mtS f n E (by2 f fa) mj B B.length 0 = some e9) ∧ v = some (.int 0) ∧ M'.1 vd = some (ob 10 [.int (nI e9.1), .int (nI e9.2)]) ∧ M'.1 og = some (ob 11 [.ref ga, .int gn, .ref gf, gk, .int gw]) ∧ M.2.1 ≤ M'.2.1))) := by
    intro kf
    induction kf with
    | zero => exact (by intros; exact pl_0)
    | succ kf ih =>
      intro i t1 s2 M1 hl_ox hl_og hl_o hl_c hl_b hl_da hl_vd hl_ac hV1 hM1 hM21 hDO1 hDD1 tp1 ht hi hs
      refine ps_st1 (S' := (3, [(0, .ref o), (1, .int (nI i))], [.int (nI i)], M1)) rfl rfl rfl ?_
      obtain ⟨R, h_mm, hR⟩ := hM1.2.1
      have l_mm := hM1.1
      refine ps_st (S' := (4, [(0, .ref o), (1, .int (nI i))], [.ref o, .int (nI i)], M1)) rfl rfl rfl ?_
      refine ps_get (S' := (7, [(0, .ref o), (1, .int (nI i))], [.ref c, .int (nI i)], M1)) rfl hl_o rfl rfl ?_
      refine ps_get (S' := (10, [(0, .ref o), (1, .int (nI i))], [.ref mm, .int (nI i)], M1)) rfl hl_c rfl rfl ?_
      refine ps_aalen (S' := (11, [(0, .ref o), (1, .int (nI i))], [.int (nI B.length), .int (nI i)], M1)) rfl h_mm rfl ?_
      refine ps_if2 (S1 := (67, [(0, .ref o), (1, .int (nI i))], [], M1)) (S2 := (14, [(0, .ref o), (1, .int (nI i))], [], M1)) rfl rfl rfl (fun c_11 => ?_) (fun c_11 => ?_)
      · have c_11 : (nI B.length) ≤ (nI i) := of_decide_eq_true c_11
        have n_11 : B.length ≤ i := (le_nI (p := B.length) (n := i) (by omega) (by omega)).mp c_11
        refine ps_st (S' := (68, [(0, .ref o), (1, .int (nI i))], [.int 1], M1)) rfl rfl rfl ?_
        exact ps_ret rfl rfl (Or.inl ⟨s2, by rw [← hs, show B.length - i = 0 by omega]; rfl, hV1, hM21, hM1.le (by omega), by rw [show B.length = i by omega, tp1]; exact hDD1, hDO1, rfl, hl_ox, hl_og, hl_o, hl_c, hl_b, hl_da, hl_vd, hl_ac, by omega⟩)
      · have c_11 : ¬ ((nI B.length) ≤ (nI i)) := of_decide_eq_false c_11
        have n_11 : ¬ (B.length ≤ i) := fun h9 => c_11 ((le_nI (p := B.length) (n := i) (by omega) (by omega)).mpr h9)
        refine ps_st (S' := (15, [(0, .ref o), (1, .int (nI i))], [.ref o], M1)) rfl rfl rfl ?_
        refine ps_get (S' := (18, [(0, .ref o), (1, .int (nI i))], [.ref c], M1)) rfl hl_o rfl rfl ?_
        refine ps_get (S' := (21, [(0, .ref o), (1, .int (nI i))], [.ref mm], M1)) rfl hl_c rfl rfl ?_
        refine ps_st (S' := (22, [(0, .ref o), (1, .int (nI i))], [.int (nI i), .ref mm], M1)) rfl rfl rfl ?_
        obtain ⟨hl8, y1, y2, y3, y4, yv, hc8, hv8⟩ := hM1.2.2.2 i (by omega)
        obtain ⟨rfl, rfl, rfl, rfl, rfl⟩ := hv8 (Nat.le_refl _)
        obtain ⟨a, ha⟩ : ∃ a, G i = a := ⟨_, rfl⟩
        rw [ha] at hc8 hl8
        have hA : G i = a ∧ i < B.length ∧ i < i + 1 := ⟨ha, by omega, by omega⟩
        have hI9 := hM1.2.2.1
        have hM9 := hM1.le (Nat.le_succ i)
        have hb0 : B.getD i 0 = B.getD i 0 := rfl
        have hDa : ∀ j, j < B2.length → ¬ G2 j = a := fun j hj e9 => hD i j (by omega) hj (ha.trans e9.symm)
        have hDo : ∀ j, j < B2.length → j < B2.length → ¬ G2 j = a := fun j hj _ => hDa j hj
        have hDk : ∀ j, j < i → j < B.length → ¬ G j = a := fun j hj hb e9 => absurd (hI9 j i hb (by omega) (e9.trans ha.symm)) (by omega)
        obtain ⟨hb1, e0, hat⟩ := hB i (by omega)
        refine ps_aald (S' := (23, [(0, .ref o), (1, .int (nI i))], [.ref a], M1)) rfl h_mm (⟨by omega, by rw [hR i (by omega), ha]⟩) rfl ?_
        refine ps_st (S' := (24, [(2, .ref a), (0, .ref o), (1, .int (nI i))], [], M1)) rfl rfl rfl ?_
        refine ps_st (S' := (25, [(2, .ref a), (0, .ref o), (1, .int (nI i))], [.ref a], M1)) rfl rfl rfl ?_
        refine ps_st (S' := (31, [(2, .ref a), (0, .ref o), (1, .int (nI i))], [], M1)) rfl rfl rfl ?_
        refine ps_st (S' := (32, [(2, .ref a), (0, .ref o), (1, .int (nI i))], [.ref o], M1)) rfl rfl rfl ?_
        refine ps_st (S' := (33, [(2, .ref a), (0, .ref o), (1, .int (nI i))], [.ref a, .ref o], M1)) rfl rfl rfl ?_
        refine ps_st (S' := (34, [(2, .ref a), (0, .ref o), (1, .int (nI i))], [.int (nI i), .ref a, .ref o], M1)) rfl rfl rfl ?_
        refine pl_call (a := [.ref o, .ref a, .int (nI i)]) (rest := []) rfl rfl rfl (dk_methodHolds (f := f) (n := n) (N := N) (q := q) (E := E) (o := o) (c := c) (b := b) (da := da) (vd := vd) (ac := ac) (fr := fr) (fa := fa) (ic := ic) (mj := mj) (na := na) (pa := pa) (mi := mi) (ru := ru) (wa := wa) (k1 := k1) (k2 := k2) (k3 := k3) (k4 := k4) (k5 := k5) (k6 := k6) (k7 := k7) (a := a) (b0 := (B.getD i 0)) (kn := 0) (co := 0) (ap := 0) (ex := 0) (cd := .null) (B := B) (G := G) (mm := mm) (kk := (i + 1)) (i0 := i) hl_o hl_c hl_b hl_da hl_vd hc8 (hn) (hmj) (hfa) (hA) (rfl) (hB9) (hb1) (hV1) (hM9)) (fun v1 M2 q3 => ?_)
        rcases q3 with q3 | q3
        · skip
          obtain ⟨q34_s, rfl, h4, h5, f6⟩ := q3
          have h8 := (f6.1 ox (nin2 (ob_ne hl_ox hl_vd (by decide)) (ob_ne hl_ox hc8 (by decide)))).trans hl_ox
          have h9 := (f6.1 og (nin2 (ob_ne hl_og hl_vd (by decide)) (ob_ne hl_og hc8 (by decide)))).trans hl_og
          have h10 := (f6.1 o (nin2 (ob_ne hl_o hl_vd (by decide)) (ob_ne hl_o hc8 (by decide)))).trans hl_o
          have h11 := (f6.1 c (nin2 (ob_ne hl_c hl_vd (by decide)) (ob_ne hl_c hc8 (by decide)))).trans hl_c
          have h12 := (f6.1 b (nin2 (ob_ne hl_b hl_vd (by decide)) (ob_ne hl_b hc8 (by decide)))).trans hl_b
          have h13 := (f6.1 da (nin2 (Ne.symm (ob_ar hl_vd hl_da)) (Ne.symm (ob_ar hc8 hl_da)))).trans hl_da
          have h14 := (f6.1 ac (nin2 (ob_ne hl_ac hl_vd (by decide)) (ob_ne hl_ac hc8 (by decide)))).trans hl_ac
          have h15 := (f6.1 mm (nin2 (Ne.symm (ob_ro hl_vd h_mm)) (Ne.symm (ob_ro hc8 h_mm)))).trans h_mm
          have tp17 : M2.2.1 = t1 := by rw [f6.2]; exact tp1
          have hV18 := hV1.keep f6.gm (n7c hl_vd (by decide) (n7c hc8 (by decide) (n7nil)))
          have hV19 := hM9.keepA f6.gm (n6c hl_vd (by decide) (n6a (n6nil))) hA h5 hb0
          have hV20 := hM21.keepB f6.gm (n6c hl_vd (by decide) (n6a (n6nil))) hc8 hDa
          have hV21 := hDO1.keep f6.gm (nDc hl_vd (by decide) (nDa hc8 hDo (nDn)))
          have hV22 := hDD1.keep f6.gm (nDc hl_vd (by decide) (nDa hc8 hDk (nDn)))
          show pl _ _ _ (37, [(2, .ref a), (0, .ref o), (1, .int (nI i))], [.int 1], M2) _
          refine ps_if (S1 := (59, [], [], M2)) (S2 := (40, [(2, .ref a), (0, .ref o), (1, .int (nI i))], [], M2)) rfl rfl rfl (fun c_37 => ?_) (fun c_37 => ?_)
          · exact absurd (of_decide_eq_true c_37) (by decide)
          refine ps_st (S' := (41, [(2, .ref a), (0, .ref o), (1, .int (nI i))], [.ref o], M2)) rfl rfl rfl ?_
          refine ps_get (S' := (44, [(2, .ref a), (0, .ref o), (1, .int (nI i))], [.ref ac], M2)) rfl h10 rfl rfl ?_
          refine ps_st (S' := (45, [(2, .ref a), (0, .ref o), (1, .int (nI i))], [.ref a, .ref ac], M2)) rfl rfl rfl ?_
          have htq := tp17
          refine pl_call (a := [.ref ac, .ref a]) (rest := []) rfl rfl rfl (dk_ofMethod7 (f := f) (n := n) (N := N) (q := q) (E := E) (ac := ac) (c := c) (b := b) (da := da) (vd := vd) (fr := fr) (mr := mm) (fa := fa) (ic := ic) (mj := mj) (na := na) (pa := pa) (mi := mi) (ru := ru) (wa := wa) (s1 := s2) (k1 := k1) (k2 := k2) (k3 := k3) (k4 := k4) (k5 := k5) (k6 := k6) (k7 := k7) (a := a) (b0 := (B.getD i 0)) (e0 := e0) (w := (apN f n E (B.getD i 0))) (kn := 0) (co := 0) h14 h12 h13 h11 h4 h5 (hn) (hmj) (hb1) (hat) (Nat.lt_trans (apN_lt _ _ _ _) (by decide)) (hV18) (by omega) (by omega) (by omega) (by omega) (by omega) (by omega) (by omega)) (fun v23 M24 q25 => ?_)
          rcases q25 with q25 | q25
          · skip
            obtain ⟨h26, s227, K28, cd229, q45_s, q45_h, q45_U, q45_C, rfl, h30, h31, h32, f33, tp34⟩ := q25
            have h35 := (f33.1 ox (by omega) (nin3 (ob_ne h8 h14 (by decide)) (ob_ne h8 h4 (by decide)) (ob_ne h8 h5 (by decide)))).trans h8
            have h36 := (f33.1 og (by omega) (nin3 (ob_ne h9 h14 (by decide)) (ob_ne h9 h4 (by decide)) (ob_ne h9 h5 (by decide)))).trans h9
            have h37 := (f33.1 o (by omega) (nin3 (ob_ne h10 h14 (by decide)) (ob_ne h10 h4 (by decide)) (ob_ne h10 h5 (by decide)))).trans h10
            have h38 := (f33.1 c (by omega) (nin3 (ob_ne h11 h14 (by decide)) (ob_ne h11 h4 (by decide)) (ob_ne h11 h5 (by decide)))).trans h11
            have h39 := (f33.1 b (by omega) (nin3 (ob_ne h12 h14 (by decide)) (ob_ne h12 h4 (by decide)) (ob_ne h12 h5 (by decide)))).trans h12
            have h40 := (f33.1 da (by omega) (nin3 (Ne.symm (ob_ar h14 h13)) (Ne.symm (ob_ar h4 h13)) (Ne.symm (ob_ar h5 h13)))).trans h13
            have h41 := (f33.1 mm (by omega) (nin3 (Ne.symm (ob_ro h14 h15)) (Ne.symm (ob_ro h4 h15)) (Ne.symm (ob_ro h5 h15)))).trans h15
            obtain ⟨t43, tp44⟩ : ∃ t9, M24.2.1 = t9 := ⟨_, rfl⟩
            rw [tp17, tp44] at tp34
            have hV45 := hV18.keep f33 (n7c h14 (by decide) (n7c h4 (by decide) (n7c h5 (by decide) (n7nil))))
            have hV46 := hV19.keepA f33 (n6c h14 (by decide) (n6c h4 (by decide) (n6a (n6nil)))) hA h32 hb0
            have hV47 := hV20.keepB f33 (n6c h14 (by decide) (n6c h4 (by decide) (n6a (n6nil)))) h5 hDa
            have hV48 := hV21.keep f33 (nDc h14 (by decide) (nDc h4 (by decide) (nDa h5 hDo (nDn))))
            have hV49 := hV22.keep f33 (nDc h14 (by decide) (nDc h4 (by decide) (nDa h5 hDk (nDn))))
            show pl _ _ _ (48, [(2, .ref a), (0, .ref o), (1, .int (nI i))], [.int 1], M24) _
            refine ps_if (S1 := (59, [], [], M24)) (S2 := (51, [(2, .ref a), (0, .ref o), (1, .int (nI i))], [], M24)) rfl rfl rfl (fun c_48 => ?_) (fun c_48 => ?_)
            · exact absurd (of_decide_eq_true c_48) (by decide)
            refine ps_st (S' := (52, [(2, .ref a), (0, .ref o), (1, .int (nI i))], [.ref o], M24)) rfl rfl rfl ?_
            refine ps_st (S' := (53, [(2, .ref a), (0, .ref o), (1, .int (nI i))], [.ref a, .ref o], M24)) rfl rfl rfl ?_
            refine pl_call (a := [.ref o, .ref a]) (rest := []) rfl rfl rfl (dk_codeIsDue (f := f) (n := n) (N := N) (q := q) (E := E) (o := o) (c := c) (b := b) (da := da) (vd := vd) (ac := ac) (fr := fr) (mr := mm) (fa := fa) (ic := ic) (mj := mj) (na := na) (pa := pa) (mi := mi) (ru := ru) (wa := wa) (k1 := k1) (k2 := k2) (k3 := k3) (k4 := k4) (k5 := k5) (k6 := k6) (k7 := k7) (a := a) (b0 := (B.getD i 0)) (kn := (nI K28.1)) (co := 0) (ap := (nI (apN f n E (B.getD i 0)))) (ex := (nI K28.2.2)) (cd := cd229) (h := h26) h37 h38 h39 h40 h30 h32 (hn) (hmj) (hfa) (q45_h) (hV45)) (fun v50 M51 q52 => ?_)
            rcases q52 with q52 | q52
            · skip
              obtain ⟨q53_s, rfl, h53, f54⟩ := q52
              have h56 := (f54.1 ox (nin1 (ob_ne h35 h30 (by decide)))).trans h35
              have h57 := (f54.1 og (nin1 (ob_ne h36 h30 (by decide)))).trans h36
              have h58 := (f54.1 o (nin1 (ob_ne h37 h30 (by decide)))).trans h37
              have h59 := (f54.1 c (nin1 (ob_ne h38 h30 (by decide)))).trans h38
              have h60 := (f54.1 b (nin1 (ob_ne h39 h30 (by decide)))).trans h39
              have h61 := (f54.1 da (nin1 (Ne.symm (ob_ar h30 h40)))).trans h40
              have h62 := (f54.1 ac (nin1 (ob_ne h31 h30 (by decide)))).trans h31
              have h63 := (f54.1 mm (nin1 (Ne.symm (ob_ro h30 h41)))).trans h41
              have h64 := (f54.1 a (nin1 (ob_ne h32 h30 (by decide)))).trans h32
              have tp66 : M51.2.1 = t43 := by rw [f54.2]; exact tp44
              have hV67 := hV45.keep f54.gm (n7c h30 (by decide) (n7nil))
              have hV68 := hV46.keep f54.gm (n6o h30 (by decide) (n6on))
              have hV69 := hV47.keep f54.gm (n6o h30 (by decide) (n6on))
              have hV70 := hV48.keep f54.gm (nDc h30 (by decide) (nDn))
              have hV71 := hV49.keep f54.gm (nDc h30 (by decide) (nDn))
              have hV72 := q45_C.keep f54.gm (nCc h30 (by decide) (nCn))
              show pl _ _ _ (56, [(2, .ref a), (0, .ref o), (1, .int (nI i))], [.int 1], M51) _
              refine ps_if (S1 := (61, [(0, .ref o), (1, .int (nI i))], [], M51)) (S2 := (59, [], [], M51)) rfl rfl rfl (fun c_56 => ?_) (fun c_56 => ?_)
              rotate_left
              · exact absurd (by decide) (of_decide_eq_false c_56)
              refine ps_st (S' := (64, [(1, .int ((nI i) + 1)), (0, .ref o)], [], M51)) rfl rfl rfl ?_
              rw [nI_add1 (p := i) (k := 1) (x := 1) rfl (by omega)]
              show pl _ _ _ (_, [(1, .int (nI (i + 1))), (0, .ref o)], [], M51) _
              refine ps_st (S' := (2, [(0, .ref o), (1, .int (nI (i + 1)))], [], M51)) rfl rfl rfl ?_
              have hK9 : mK f n E (B.getD i 0) = K28 := q45_U
              have hc7 := h64
              have hDD9 := hV71.snoc (T' := t43) ha (by omega) (by rw [hK9]; exact hc7) (by rw [hK9]; exact hV72) (by omega) (by omega) (by omega)
              exact ih (i + 1) (t43) (s227) M51 h56 h57 h58 h59 h60 h61 h53 h62 hV67 hV68 hV69 hV70 hDD9  (tp66) (by omega) (by omega) (by
                  rw [← hs, mtS_st (i := i) (by omega)]
                  rw [q34_s]
                  try dsimp only
                  rw [q45_s]
                  try dsimp only
                  rw [q53_s]
                  try dsimp only
                  first | done | rfl)
            · skip
              obtain ⟨e73, q53_s, rfl, h74, f75⟩ := q52
              have h77 := (f75.1 ox (nin1 (ob_ne h35 h30 (by decide)))).trans h35
              have h78 := (f75.1 og (nin1 (ob_ne h36 h30 (by decide)))).trans h36
              have h79 := (f75.1 o (nin1 (ob_ne h37 h30 (by decide)))).trans h37
              have h80 := (f75.1 c (nin1 (ob_ne h38 h30 (by decide)))).trans h38
              have h81 := (f75.1 b (nin1 (ob_ne h39 h30 (by decide)))).trans h39
              have h82 := (f75.1 da (nin1 (Ne.symm (ob_ar h30 h40)))).trans h40
              have h83 := (f75.1 ac (nin1 (ob_ne h31 h30 (by decide)))).trans h31
              have h84 := (f75.1 mm (nin1 (Ne.symm (ob_ro h30 h41)))).trans h41
              have h85 := (f75.1 a (nin1 (ob_ne h32 h30 (by decide)))).trans h32
              have tp87 : M51.2.1 = t43 := by rw [f75.2]; exact tp44
              have hV88 := hV45.keep f75.gm (n7c h30 (by decide) (n7nil))
              have hV89 := hV46.keep f75.gm (n6o h30 (by decide) (n6on))
              have hV90 := hV47.keep f75.gm (n6o h30 (by decide) (n6on))
              have hV91 := hV48.keep f75.gm (nDc h30 (by decide) (nDn))
              have hV92 := hV49.keep f75.gm (nDc h30 (by decide) (nDn))
              have hV93 := q45_C.keep f75.gm (nCc h30 (by decide) (nCn))
              show pl _ _ _ (56, [(2, .ref a), (0, .ref o), (1, .int (nI i))], [.int 0], M51) _
              refine ps_if (S1 := (61, [(0, .ref o), (1, .int (nI i))], [], M51)) (S2 := (59, [], [], M51)) rfl rfl rfl (fun c_56 => ?_) (fun c_56 => ?_)
              · exact absurd (of_decide_eq_true c_56) (by decide)
              refine ps_st (S' := (60, [], [.int 0], M51)) rfl rfl rfl ?_
              exact ps_ret rfl rfl (Or.inr ⟨e73, by
                  rw [← hs, mtS_st (i := i) (by omega)]
                  rw [q34_s]
                  try dsimp only
                  rw [q45_s]
                  try dsimp only
                  rw [q53_s]
                  try dsimp only
                  first | done | rfl, rfl, h74, h78, by omega⟩)
          · skip
            obtain ⟨e994, q45_s, rfl, h95, f96, tp97⟩ := q25
            have h98 := (f96.1 ox (by omega) (nin3 (ob_ne h8 h14 (by decide)) (ob_ne h8 h4 (by decide)) (ob_ne h8 h5 (by decide)))).trans h8
            have h99 := (f96.1 og (by omega) (nin3 (ob_ne h9 h14 (by decide)) (ob_ne h9 h4 (by decide)) (ob_ne h9 h5 (by decide)))).trans h9
            have h100 := (f96.1 o (by omega) (nin3 (ob_ne h10 h14 (by decide)) (ob_ne h10 h4 (by decide)) (ob_ne h10 h5 (by decide)))).trans h10
            have h101 := (f96.1 c (by omega) (nin3 (ob_ne h11 h14 (by decide)) (ob_ne h11 h4 (by decide)) (ob_ne h11 h5 (by decide)))).trans h11
            have h102 := (f96.1 b (by omega) (nin3 (ob_ne h12 h14 (by decide)) (ob_ne h12 h4 (by decide)) (ob_ne h12 h5 (by decide)))).trans h12
            have h103 := (f96.1 da (by omega) (nin3 (Ne.symm (ob_ar h14 h13)) (Ne.symm (ob_ar h4 h13)) (Ne.symm (ob_ar h5 h13)))).trans h13
            have h104 := (f96.1 mm (by omega) (nin3 (Ne.symm (ob_ro h14 h15)) (Ne.symm (ob_ro h4 h15)) (Ne.symm (ob_ro h5 h15)))).trans h15
            obtain ⟨t106, tp107⟩ : ∃ t9, M24.2.1 = t9 := ⟨_, rfl⟩
            rw [tp17, tp107] at tp97
            have hV108 := hV18.keep f96 (n7c h14 (by decide) (n7c h4 (by decide) (n7c h5 (by decide) (n7nil))))
            have hV109 := hV20.keepB f96 (n6c h14 (by decide) (n6c h4 (by decide) (n6a (n6nil)))) h5 hDa
            have hV110 := hV21.keep f96 (nDc h14 (by decide) (nDc h4 (by decide) (nDa h5 hDo (nDn))))
            have hV111 := hV22.keep f96 (nDc h14 (by decide) (nDc h4 (by decide) (nDa h5 hDk (nDn))))
            show pl _ _ _ (48, [(2, .ref a), (0, .ref o), (1, .int (nI i))], [.int 0], M24) _
            refine ps_if (S1 := (59, [], [], M24)) (S2 := (51, [(2, .ref a), (0, .ref o), (1, .int (nI i))], [], M24)) rfl rfl rfl (fun c_48 => ?_) (fun c_48 => ?_)
            rotate_left
            · exact absurd (by decide) (of_decide_eq_false c_48)
            refine ps_st (S' := (60, [], [.int 0], M24)) rfl rfl rfl ?_
            exact ps_ret rfl rfl (Or.inr ⟨e994, by
                rw [← hs, mtS_st (i := i) (by omega)]
                rw [q34_s]
                try dsimp only
                rw [q45_s]
                try dsimp only
                first | done | rfl, rfl, h95, h99, by omega⟩)
        · skip
          obtain ⟨e112, q34_s, rfl, h113, f114⟩ := q3
          have h116 := (f114.1 ox (nin2 (ob_ne hl_ox hl_vd (by decide)) (ob_ne hl_ox hc8 (by decide)))).trans hl_ox
          have h117 := (f114.1 og (nin2 (ob_ne hl_og hl_vd (by decide)) (ob_ne hl_og hc8 (by decide)))).trans hl_og
          have h118 := (f114.1 o (nin2 (ob_ne hl_o hl_vd (by decide)) (ob_ne hl_o hc8 (by decide)))).trans hl_o
          have h119 := (f114.1 c (nin2 (ob_ne hl_c hl_vd (by decide)) (ob_ne hl_c hc8 (by decide)))).trans hl_c
          have h120 := (f114.1 b (nin2 (ob_ne hl_b hl_vd (by decide)) (ob_ne hl_b hc8 (by decide)))).trans hl_b
          have h121 := (f114.1 da (nin2 (Ne.symm (ob_ar hl_vd hl_da)) (Ne.symm (ob_ar hc8 hl_da)))).trans hl_da
          have h122 := (f114.1 ac (nin2 (ob_ne hl_ac hl_vd (by decide)) (ob_ne hl_ac hc8 (by decide)))).trans hl_ac
          have h123 := (f114.1 mm (nin2 (Ne.symm (ob_ro hl_vd h_mm)) (Ne.symm (ob_ro hc8 h_mm)))).trans h_mm
          have tp125 : M2.2.1 = t1 := by rw [f114.2]; exact tp1
          have hV126 := hV1.keep f114.gm (n7c hl_vd (by decide) (n7c hc8 (by decide) (n7nil)))
          have hV127 := hM21.keepB f114.gm (n6c hl_vd (by decide) (n6a (n6nil))) hc8 hDa
          have hV128 := hDO1.keep f114.gm (nDc hl_vd (by decide) (nDa hc8 hDo (nDn)))
          have hV129 := hDD1.keep f114.gm (nDc hl_vd (by decide) (nDa hc8 hDk (nDn)))
          show pl _ _ _ (37, [(2, .ref a), (0, .ref o), (1, .int (nI i))], [.int 0], M2) _
          refine ps_if (S1 := (59, [], [], M2)) (S2 := (40, [(2, .ref a), (0, .ref o), (1, .int (nI i))], [], M2)) rfl rfl rfl (fun c_37 => ?_) (fun c_37 => ?_)
          rotate_left
          · exact absurd (by decide) (of_decide_eq_false c_37)
          refine ps_st (S' := (60, [], [.int 0], M2)) rfl rfl rfl ?_
          exact ps_ret rfl rfl (Or.inr ⟨e112, by
              rw [← hs, mtS_st (i := i) (by omega)]
              rw [q34_s]
              try dsimp only
              first | done | rfl, rfl, h113, h117, by omega⟩)
  refine ps_st (S' := (1, [(0, .ref o)], [.int 0], M)) rfl rfl rfl ?_
  refine ps_st (S' := (2, [(0, .ref o), (1, .int 0)], [], M)) rfl rfl rfl ?_
  exact (LL kf) (0) (z0) (s1) M h_ox h_og h_o h_c h_b h_da h_vd h_ac hV hM hM2 hDO hDD  (tp0) (Nat.le_refl _) (by omega) (rfl)
