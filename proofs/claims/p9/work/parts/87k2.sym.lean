/-! the reference's table of texts (laid by wip/p4/e2.py) -/
/-! the reference's table of texts (my own text) -/
section SYA
/-- the hash of the first k characters -/
def hp (c : Nat → Nat) : Nat → Int32
  | 0 => 7
  | k + 1 => 31 * hp c k + nI (c k)
def hsI (x : Int32) : Int32 := (x ^^^ ((x.toUInt32 >>> ((12 : Int32).toUInt32 &&& Int32.toUInt32 31)).toInt32)) &&& 4095
def hsh (l : List Nat) : Nat := (hsI (hp (fun i => l.getD i 0) l.length)).toInt.toNat
theorem hsh_eq {l : List Nat} {k : Nat} (h : k = l.length) : (hp (fun i => l.getD i 0) k ^^^ (((hp (fun i => l.getD i 0) k).toUInt32 >>> ((12 : Int32).toUInt32 &&& Int32.toUInt32 31)).toInt32)) &&& 4095 = nI (hsh l) := by
  subst h
  show hsI _ = _
  unfold hsh
  obtain ⟨j, hj, e⟩ := pk_andE ((hp (fun i => l.getD i 0) l.length ^^^ (((hp (fun i => l.getD i 0) l.length).toUInt32 >>> ((12 : Int32).toUInt32 &&& Int32.toUInt32 31)).toInt32))) (m := 4095) 12 (by decide)
  have e2 : hsI (hp (fun i => l.getD i 0) l.length) = Int32.ofNat j := e
  rw [e2, Int32.toInt_ofNat_of_lt (by omega)]
  rfl
theorem hsh_lt (l : List Nat) : hsh l < 4096 := by
  unfold hsh
  obtain ⟨j, hj, e⟩ := pk_andE ((hp (fun i => l.getD i 0) l.length ^^^ (((hp (fun i => l.getD i 0) l.length).toUInt32 >>> ((12 : Int32).toUInt32 &&& Int32.toUInt32 31)).toInt32))) (m := 4095) 12 (by decide)
  have e2 : hsI (hp (fun i => l.getD i 0) l.length) = Int32.ofNat j := e
  rw [e2, Int32.toInt_ofNat_of_lt (by omega)]
  show (j : Int).toNat < 4096
  omega
/-- the last text ahead of number m with this hash -/
def gb (tx : List (List Nat)) : Nat → Nat → Option Nat
  | 0, _ => none
  | m + 1, h => if hsh (tx.getD m []) = h then some m else gb tx m h
def gI (o : Option Nat) : Int32 := match o with
  | none => -1
  | some t => nI t
theorem gb_some {tx : List (List Nat)} {h : Nat} : ∀ {m t : Nat}, gb tx m h = some t → t < m ∧ hsh (tx.getD t []) = h ∧ ∀ s, t < s → s < m → ¬ hsh (tx.getD s []) = h := by
  intro m
  induction m with
  | zero => intro t h9; cases h9
  | succ m ih =>
    intro t h9
    unfold gb at h9
    split at h9
    · rename_i h1
      cases h9
      exact ⟨by omega, h1, fun s a b => by omega⟩
    · rename_i h1
      obtain ⟨a, b, c⟩ := ih h9
      refine ⟨by omega, b, fun s a' b' => ?_⟩
      by_cases e : s = m
      · rw [e]; exact h1
      · exact c s a' (by omega)
theorem gb_none {tx : List (List Nat)} {h : Nat} : ∀ {m : Nat}, gb tx m h = none → ∀ s, s < m → ¬ hsh (tx.getD s []) = h := by
  intro m
  induction m with
  | zero => intro _ s hs; omega
  | succ m ih =>
    intro h9 s hs
    unfold gb at h9
    split at h9
    · cases h9
    · rename_i h1
      by_cases e : s = m
      · rw [e]; exact h1
      · exact ih h9 s (by omega)
theorem gI_some {o : Option Nat} {c : Int32} (hc : c = gI o) (h : ¬ c < 0) : ∃ t, c = nI t ∧ o = some t := by
  cases o with
  | none => rw [hc] at h; exact absurd (by decide) h
  | some t => exact ⟨t, hc, rfl⟩
theorem gI_none {o : Option Nat} {c : Int32} (hc : c = gI o) (hb : ∀ t, o = some t → t < 1073741824) (h : c < 0) : o = none := by
  cases o with
  | none => rfl
  | some t => rw [hc] at h; exact absurd h (nI_n0 (hb t rfl))
theorem gd_ap {tx : List (List Nat)} {l : List Nat} {s : Nat} (h : s < tx.length) : (tx ++ [l]).getD s [] = tx.getD s [] := by
  rw [List.getD_eq_getElem?_getD, List.getD_eq_getElem?_getD, List.getElem?_append_left h]
theorem gd_at {tx : List (List Nat)} {l : List Nat} : (tx ++ [l]).getD tx.length [] = l := by
  rw [List.getD_eq_getElem?_getD, List.getElem?_append_right (Nat.le_refl _), Nat.sub_self]
  rfl
theorem gb_ap {tx : List (List Nat)} {l : List Nat} {h : Nat} : ∀ {m : Nat}, m ≤ tx.length → gb (tx ++ [l]) m h = gb tx m h := by
  intro m
  induction m with
  | zero => intro _; rfl
  | succ m ih =>
    intro hm
    unfold gb
    rw [gd_ap (by omega), ih (by omega)]
/-- two texts with the same characters -/
theorem ls_ext {a b : List Nat} (h : a.length = b.length) (hc : ∀ i, i < a.length → a.getD i 0 = b.getD i 0) : a = b := by
  apply List.ext_getElem h
  intro i h1 h2
  have := hc i h1
  rw [List.getD_eq_getElem?_getD, List.getD_eq_getElem?_getD, List.getElem?_eq_getElem h1, List.getElem?_eq_getElem h2] at this
  exact this
end SYA
section SYB
variable {I I' : rI} {R R' : rR}
/-- the texts tx in the table: text number s stands at A s -/
def SYT (tx : List (List Nat)) (cN : Nat) (A : Nat → Nat) (I : rI) (R : rR) : Prop :=
  (I 8 = some (nI tx.length) ∧ I 3 = some (nI cN) ∧ tx.length ≤ 24000 ∧ cN ≤ 66000) ∧
  (∀ s, s < tx.length → R 4 s = some (nI (A s)) ∧ R 5 s = some (nI (tx.getD s []).length) ∧ A s + (tx.getD s []).length ≤ cN ∧ ∀ i, i < (tx.getD s []).length → R 1 (A s + i) = some (nI ((tx.getD s []).getD i 0)) ∧ (tx.getD s []).getD i 0 < 65536) ∧
  (∀ s, s < tx.length → R 6 s = some (gI (gb tx s (hsh (tx.getD s []))))) ∧ (∀ h, h < 4096 → R 7 h = some (gI (gb tx tx.length h))) ∧
  (∀ s t, s < tx.length → t < tx.length → tx.getD s [] = tx.getD t [] → s = t)
theorem SYT.mono {tx : List (List Nat)} {cN : Nat} {A : Nat → Nat} (h : SYT tx cN A I R) (hI : ∀ k, k ∈ [3, 8] → I' k = I k) (hR : ∀ k, k ∈ [1, 4, 5, 6, 7] → R' k = R k) : SYT tx cN A I' R' := by
  obtain ⟨⟨a1, a2, a3⟩, b, c, d, e⟩ := h
  refine ⟨⟨(hI 8 (by decide)).trans a1, (hI 3 (by decide)).trans a2, a3⟩, fun s hs => ?_, fun s hs => ?_, fun s hs => ?_, e⟩
  · rw [hR 4 (by decide), hR 5 (by decide), hR 1 (by decide)]
    exact b s hs
  · rw [hR 6 (by decide)]
    exact c s hs
  · rw [hR 7 (by decide)]
    exact d s hs
/-- behind the characters that are used anything may be written -/
theorem SYT.wr {tx : List (List Nat)} {cN j : Nat} {A : Nat → Nat} {x : Int32} (h : SYT tx cN A I R) (hR : R' = rset R 1 j x) (hj : cN ≤ j) : SYT tx cN A I R' := by
  obtain ⟨a, b, c, d, e⟩ := h
  subst hR
  refine ⟨a, fun s hs => ?_, fun s hs => ?_, fun s hs => ?_, e⟩
  · obtain ⟨b1, b2, b3, b4⟩ := b s hs
    rw [rset_ne (by decide), rset_ne (by decide)]
    refine ⟨b1, b2, b3, fun i hi => ?_⟩
    rw [rset_el (by omega)]
    exact b4 i hi
  · rw [rset_ne (by decide)]
    exact c s hs
  · rw [rset_ne (by decide)]
    exact d s hs
/-- the text that is to be looked up -/
def CUW (l : List Nat) (k : Nat) (I : rI) (R : rR) : Prop := ∀ i, i < k → R 2 i = some (nI (l.getD i 0)) ∧ l.getD i 0 < 65536
theorem CUW.mono {l : List Nat} {k : Nat} (h : CUW l k I R) (hI : ∀ k, k ∈ ([] : List Nat) → I' k = I k) (hR : ∀ k, k ∈ [2] → R' k = R k) : CUW l k I' R' := fun i hi => by
  rw [hR 2 (by decide)]
  exact h i hi
theorem CUW.nil {l : List Nat} : CUW l 0 I R := fun i hi => by omega
theorem CUW.snoc {l : List Nat} {k x : Nat} (h : CUW l k I R) (hR : R' = rset R 2 k (vp_nar .char (nI x))) (hx : l.getD k 0 = x) (hc : x < 65536) : CUW l (k + 1) I R' := fun i hi => by
  subst hR
  by_cases e : i = k
  · subst e
    rw [rset_at, nar_char hc, hx]
    exact ⟨rfl, hc⟩
  · rw [rset_el e]
    exact h i (by omega)
/-- what was copied behind the characters that are used -/
def CPY (l : List Nat) (cN k : Nat) (I : rI) (R : rR) : Prop := ∀ i, i < k → R 1 (cN + i) = some (nI (l.getD i 0)) ∧ l.getD i 0 < 65536
theorem CPY.mono {l : List Nat} {cN k : Nat} (h : CPY l cN k I R) (hI : ∀ k, k ∈ ([] : List Nat) → I' k = I k) (hR : ∀ k, k ∈ [1] → R' k = R k) : CPY l cN k I' R' := fun i hi => by
  rw [hR 1 (by decide)]
  exact h i hi
theorem CPY.nil {l : List Nat} {cN : Nat} : CPY l cN 0 I R := fun i hi => by omega
theorem CPY.snoc {l : List Nat} {cN k : Nat} (h : CPY l cN k I R) (hR : R' = rset R 1 (cN + k) (vp_nar .char (nI (l.getD k 0)))) (hc : l.getD k 0 < 65536) : CPY l cN (k + 1) I R' := fun i hi => by
  subst hR
  by_cases e : i = k
  · subst e
    rw [rset_at, nar_char hc]
    exact ⟨rfl, hc⟩
  · rw [rset_el (by omega)]
    exact h i (by omega)
/-- a text more -/
theorem SYT.add {tx : List (List Nat)} {cN : Nat} {A : Nat → Nat} {l : List Nat} {Ra R1 R2 R3 R4 : rR} (h : SYT tx cN A I Ra) (hc : CPY l cN l.length I Ra) (hno : ∀ s, s < tx.length → ¬ tx.getD s [] = l) (h1 : R1 = rset Ra 4 tx.length (nI cN)) (h2 : R2 = rset R1 5 tx.length (nI l.length)) (h3 : R3 = rset R2 6 tx.length (gI (gb tx tx.length (hsh l)))) (h4 : R4 = rset R3 7 (hsh l) (nI tx.length))
    (i8 : I' 8 = some (nI (tx.length + 1))) (i3 : I' 3 = some (nI (cN + l.length))) (hS : tx.length < 24000) (hN : cN + l.length ≤ 66000) : SYT (tx ++ [l]) (cN + l.length) (fun s => if s = tx.length then cN else A s) I' R4 := by
  obtain ⟨-, b, c, d, e⟩ := h
  have r1 : R4 1 = Ra 1 := by rw [h4, rset_ne (by decide), h3, rset_ne (by decide), h2, rset_ne (by decide), h1, rset_ne (by decide)]
  have r4 : R4 4 = R1 4 := by rw [h4, rset_ne (by decide), h3, rset_ne (by decide), h2, rset_ne (by decide)]
  have r5 : R4 5 = R2 5 := by rw [h4, rset_ne (by decide), h3, rset_ne (by decide)]
  have r6 : R4 6 = R3 6 := by rw [h4, rset_ne (by decide)]
  have r60 : R2 6 = Ra 6 := by rw [h2, rset_ne (by decide), h1, rset_ne (by decide)]
  have r50 : R1 5 = Ra 5 := by rw [h1, rset_ne (by decide)]
  have r70 : R3 7 = Ra 7 := by rw [h3, rset_ne (by decide), h2, rset_ne (by decide), h1, rset_ne (by decide)]
  have hl : (tx ++ [l]).length = tx.length + 1 := by simp
  refine ⟨⟨by rw [hl]; exact i8, i3, by omega, hN⟩, fun s hs => ?_, fun s hs => ?_, fun s hs => ?_, fun s t hs ht e9 => ?_⟩
  · rw [r1, r4, r5]
    dsimp only
    by_cases e1 : s = tx.length
    · subst e1
      rw [gd_at, if_pos rfl, h1, rset_at, h2, rset_at]
      exact ⟨rfl, rfl, Nat.le_refl _, hc⟩
    · obtain ⟨b1, b2, b3, b4⟩ := b s (by omega)
      rw [gd_ap (by omega), if_neg e1, h1, rset_el e1, h2, rset_el e1, r50]
      exact ⟨b1, b2, by omega, b4⟩
  · rw [r6]
    by_cases e1 : s = tx.length
    · subst e1
      rw [gd_at, gb_ap (Nat.le_refl _), h3, rset_at]
    · rw [gd_ap (by omega), gb_ap (by omega), h3, rset_el e1, r60]
      exact c s (by omega)
  · rw [hl]
    unfold gb
    rw [gd_at, gb_ap (Nat.le_refl _)]
    by_cases e1 : hsh l = s
    · subst e1
      rw [if_pos rfl, h4, rset_at]
      rfl
    · rw [if_neg e1, h4, rset_el (Ne.symm e1), r70]
      exact d s hs
  · by_cases e1 : s = tx.length
    · by_cases e2 : t = tx.length
      · omega
      · subst e1
        rw [gd_at, gd_ap (by omega)] at e9
        exact absurd e9.symm (hno t (by omega))
    · by_cases e2 : t = tx.length
      · subst e2
        rw [gd_at, gd_ap (by omega)] at e9
        exact absurd e9 (hno s (by omega))
      · rw [gd_ap (by omega), gd_ap (by omega)] at e9
        exact e s t (by omega) (by omega) e9
end SYB

theorem lt_len : ∀ lk, rlk lk → (xe_lt lk).2.2.2.length < 1000 := by
  intro lk h
  have : ∀ lk, lk < 30 → (xe_lt lk).2.2.2.length < 1000 := by decide +kernel
  exact this lk h.2
theorem ltx_len (lk : Nat) : (ltx lk).length = (xe_lt lk).2.2.2.length := List.length_map _
theorem ltx_ch7 : ∀ lk, rlk lk → ∀ k, (ltx lk).getD k 0 < 65536 := by
  intro lk h k
  have h1 : ∀ lk, lk < 30 → ∀ c ∈ ltx lk, c < 65536 := by decide +kernel
  by_cases hi : k < (ltx lk).length
  · rw [List.getD_eq_getElem?_getD, List.getElem?_eq_getElem hi, Option.getD_some]
    exact h1 lk h.2 _ (List.getElem_mem hi)
  · rw [List.getD_eq_getElem?_getD, List.getElem?_eq_none (by omega)]
    decide
set_option maxHeartbeats 1000000 in
theorem rd_symbol {g : xe_G} {m0 : Nat} {q : Nat → Nat} {z : Nat × Nat} {I : rI} {R : rR} {M : mi_H} {tx : List (List Nat)} {cN : Nat} {A : Nat → Nat} {l : List Nat} (hR : RS g m0 q z I R M)  (hY : SYT tx cN A I R) (hU : CUW l l.length I R) (hl : l.length ≤ 66000) : pt (mT g) 245 [.ref m0, .int (nI l.length)] M (fun v M' => (∃ (tx2 : List (List Nat)) (cN2 : Nat) (A2 : Nat → Nat) (x : Nat) (I' : rI) (R' : rR), (x < tx2.length ∧ tx2.getD x [] = l) ∧ (tx.length ≤ tx2.length ∧ ∀ s, s < tx.length → tx2.getD s [] = tx.getD s []) ∧ v = some (.int (nI x)) ∧ RS g m0 q z I' R' M' ∧ eqI [3, 8] I I' ∧ eqR [1, 4, 5, 6, 7] R R' ∧ SYT tx2 cN2 A2 I' R')) := by
  refine pt_in (b := mb_245 g) rfl (fun kf => ?_)
  show pl (mT g) kf (mb_245 g).2 (0, [(0, .ref m0), (1, .int (nI l.length))], [], M) _
  have hEI : eqI [3, 8] I I := eqI.rf
  have hER : eqR [1, 4, 5, 6, 7] R R := eqR.rf
  have hll := hY.1.2.2
  have LL : ∀ (kf : Nat), (∀ (k : Nat) (M1 : mi_H) (I1 : rI) (R1 : rR), (RS g m0 q z I1 R1 M1) → (eqI [3, 8] I I1) → (eqR [1, 4, 5, 6, 7] R R1) → (SYT tx cN A I1 R1) → (CUW l l.length I1 R1) → (k ≤ l.length) →  pl (mT g) kf (mb_245 g).2 (5, [(0, .ref m0), (1, .int (nI l.length)), (2, .int (hp (fun i => l.getD i 0) k)), (3, .int (nI k))], [], M1) (fun v M' => (∃ (tx2 : List (List Nat)) (cN2 : Nat) (A2 : Nat → Nat) (x : Nat) (I' : rI) (R' : rR), (x < tx2.length ∧ tx2.getD x [] = l) ∧ (tx.length ≤ tx2.length ∧ ∀ s, s < tx.length → tx2.getD s [] = tx.getD s []) ∧ v = some (.int (nI x)) ∧ RS g m0 q z I' R' M' ∧ eqI [3, 8] I I' ∧ eqR [1, 4, 5, 6, 7] R R' ∧ SYT tx2 cN2 A2 I' R'))) ∧ (∀ (m : Nat) (c : Int32) (M1 : mi_H) (I1 : rI) (R1 : rR), (RS g m0 q z I1 R1 M1) → (eqI [3, 8] I I1) → (eqR [1, 4, 5, 6, 7] R R1) → (SYT tx cN A I1 R1) → (CUW l l.length I1 R1) → (m ≤ tx.length) → (c = gI (gb tx m (hsh l))) → (∀ s, m ≤ s → s < tx.length → ¬ tx.getD s [] = l) →  pl (mT g) kf (mb_245 g).2 (46, [(0, .ref m0), (1, .int (nI l.length)), (2, .int (nI (hsh l))), (3, .int c)], [], M1) (fun v M' => (∃ (tx2 : List (List Nat)) (cN2 : Nat) (A2 : Nat → Nat) (x : Nat) (I' : rI) (R' : rR), (x < tx2.length ∧ tx2.getD x [] = l) ∧ (tx.length ≤ tx2.length ∧ ∀ s, s < tx.length → tx2.getD s [] = tx.getD s []) ∧ v = some (.int (nI x)) ∧ RS g m0 q z I' R' M' ∧ eqI [3, 8] I I' ∧ eqR [1, 4, 5, 6, 7] R R' ∧ SYT tx2 cN2 A2 I' R'))) ∧ (∀ (m t k b : Nat) (M1 : mi_H) (I1 : rI) (R1 : rR), (RS g m0 q z I1 R1 M1) → (eqI [3, 8] I I1) → (eqR [1, 4, 5, 6, 7] R R1) → (SYT tx cN A I1 R1) → (CUW l l.length I1 R1) → (m ≤ tx.length) → (t < m) → (hsh (tx.getD t []) = hsh l) → (∀ s, t < s → s < m → ¬ hsh (tx.getD s []) = hsh l) → (∀ s, m ≤ s → s < tx.length → ¬ tx.getD s [] = l) → (b < 2) → (k ≤ l.length) → (¬ b = 0 → (tx.getD t []).length = l.length ∧ ∀ i, i < k → (tx.getD t []).getD i 0 = l.getD i 0) → (b = 0 → ¬ tx.getD t [] = l) →  pl (mT g) kf (mb_245 g).2 (70, [(0, .ref m0), (1, .int (nI l.length)), (2, .int (nI (hsh l))), (3, .int (nI t)), (4, .int (nI b)), (5, .int (nI k))], [], M1) (fun v M' => (∃ (tx2 : List (List Nat)) (cN2 : Nat) (A2 : Nat → Nat) (x : Nat) (I' : rI) (R' : rR), (x < tx2.length ∧ tx2.getD x [] = l) ∧ (tx.length ≤ tx2.length ∧ ∀ s, s < tx.length → tx2.getD s [] = tx.getD s []) ∧ v = some (.int (nI x)) ∧ RS g m0 q z I' R' M' ∧ eqI [3, 8] I I' ∧ eqR [1, 4, 5, 6, 7] R R' ∧ SYT tx2 cN2 A2 I' R'))) ∧ (∀ (k : Nat) (M1 : mi_H) (I1 : rI) (R1 : rR), (RS g m0 q z I1 R1 M1) → (eqI [3, 8] I I1) → (eqR [1, 4, 5, 6, 7] R R1) → (SYT tx cN A I1 R1) → (CUW l l.length I1 R1) → (CPY l cN k I1 R1) → (k ≤ l.length ∧ cN + k ≤ 66000) → (∀ s, s < tx.length → ¬ tx.getD s [] = l) →  pl (mT g) kf (mb_245 g).2 (137, [(0, .ref m0), (1, .int (nI l.length)), (2, .int (nI (hsh l))), (3, .int (nI k))], [], M1) (fun v M' => (∃ (tx2 : List (List Nat)) (cN2 : Nat) (A2 : Nat → Nat) (x : Nat) (I' : rI) (R' : rR), (x < tx2.length ∧ tx2.getD x [] = l) ∧ (tx.length ≤ tx2.length ∧ ∀ s, s < tx.length → tx2.getD s [] = tx.getD s []) ∧ v = some (.int (nI x)) ∧ RS g m0 q z I' R' M' ∧ eqI [3, 8] I I' ∧ eqR [1, 4, 5, 6, 7] R R' ∧ SYT tx2 cN2 A2 I' R'))) := by
    intro kf
    induction kf with
    | zero => exact ⟨by intros; exact pl_0, by intros; exact pl_0, by intros; exact pl_0, by intros; exact pl_0⟩
    | succ kf ih =>
      refine ⟨?_, ?_, ?_, ?_⟩
      · skip
        intro k M1 I1 R1 hR1 hEI1 hER1 hY1 hU1 hk
        refine ps_st1 (S' := (6, [(0, .ref m0), (1, .int (nI l.length)), (2, .int (hp (fun i => l.getD i 0) k)), (3, .int (nI k))], [.int (nI k)], M1)) rfl rfl rfl ?_
        refine ps_st (S' := (7, [(0, .ref m0), (1, .int (nI l.length)), (2, .int (hp (fun i => l.getD i 0) k)), (3, .int (nI k))], [.int (nI l.length), .int (nI k)], M1)) rfl rfl rfl ?_
        refine ps_if2 (S1 := (28, [(0, .ref m0), (1, .int (nI l.length)), (2, .int (hp (fun i => l.getD i 0) k)), (3, .int (nI k))], [], M1)) (S2 := (10, [(0, .ref m0), (1, .int (nI l.length)), (2, .int (hp (fun i => l.getD i 0) k)), (3, .int (nI k))], [], M1)) rfl rfl rfl (fun c_7 => ?_) (fun c_7 => ?_)
        · have c_7 : (nI l.length) ≤ (nI k) := of_decide_eq_true c_7
          have n_7 : l.length ≤ k := (le_nI (p := l.length) (n := k) (by omega) (by omega)).mp c_7
          refine ps_st (S' := (29, [(0, .ref m0), (1, .int (nI l.length)), (2, .int (hp (fun i => l.getD i 0) k)), (3, .int (nI k))], [.int (hp (fun i => l.getD i 0) k)], M1)) rfl rfl rfl ?_
          refine ps_st (S' := (30, [(0, .ref m0), (1, .int (nI l.length)), (2, .int (hp (fun i => l.getD i 0) k)), (3, .int (nI k))], [.int (hp (fun i => l.getD i 0) k), .int (hp (fun i => l.getD i 0) k)], M1)) rfl rfl rfl ?_
          refine ps_st (S' := (32, [(0, .ref m0), (1, .int (nI l.length)), (2, .int (hp (fun i => l.getD i 0) k)), (3, .int (nI k))], [.int 12, .int (hp (fun i => l.getD i 0) k), .int (hp (fun i => l.getD i 0) k)], M1)) rfl rfl rfl ?_
          refine ps_st (S' := (33, [(0, .ref m0), (1, .int (nI l.length)), (2, .int (hp (fun i => l.getD i 0) k)), (3, .int (nI k))], [.int (((hp (fun i => l.getD i 0) k).toUInt32 >>> ((12 : Int32).toUInt32 &&& Int32.toUInt32 31)).toInt32), .int (hp (fun i => l.getD i 0) k)], M1)) rfl rfl rfl ?_
          refine ps_st (S' := (34, [(0, .ref m0), (1, .int (nI l.length)), (2, .int (hp (fun i => l.getD i 0) k)), (3, .int (nI k))], [.int ((hp (fun i => l.getD i 0) k) ^^^ (((hp (fun i => l.getD i 0) k).toUInt32 >>> ((12 : Int32).toUInt32 &&& Int32.toUInt32 31)).toInt32))], M1)) rfl rfl rfl ?_
          refine ps_st (S' := (37, [(0, .ref m0), (1, .int (nI l.length)), (2, .int (hp (fun i => l.getD i 0) k)), (3, .int (nI k))], [.int 4095, .int ((hp (fun i => l.getD i 0) k) ^^^ (((hp (fun i => l.getD i 0) k).toUInt32 >>> ((12 : Int32).toUInt32 &&& Int32.toUInt32 31)).toInt32))], M1)) rfl rfl rfl ?_
          refine ps_st (S' := (38, [(0, .ref m0), (1, .int (nI l.length)), (2, .int (hp (fun i => l.getD i 0) k)), (3, .int (nI k))], [.int (((hp (fun i => l.getD i 0) k) ^^^ (((hp (fun i => l.getD i 0) k).toUInt32 >>> ((12 : Int32).toUInt32 &&& Int32.toUInt32 31)).toInt32)) &&& 4095)], M1)) rfl rfl rfl ?_
          rw [show (((hp (fun i => l.getD i 0) k) ^^^ (((hp (fun i => l.getD i 0) k).toUInt32 >>> ((12 : Int32).toUInt32 &&& Int32.toUInt32 31)).toInt32)) &&& 4095) = nI (hsh l) from hsh_eq (by omega)]
          have hhl := hsh_lt l
          refine ps_st (S' := (39, [(2, .int (nI (hsh l))), (0, .ref m0), (1, .int (nI l.length)), (3, .int (nI k))], [], M1)) rfl rfl rfl ?_
          refine ps_st (S' := (40, [(2, .int (nI (hsh l))), (0, .ref m0), (1, .int (nI l.length)), (3, .int (nI k))], [.ref m0], M1)) rfl rfl rfl ?_
          refine pr_ref (j := 7) (S' := (43, [(2, .int (nI (hsh l))), (0, .ref m0), (1, .int (nI l.length)), (3, .int (nI k))], [.ref (q 7)], M1)) rfl hR1 rfl rfl ?_
          refine ps_st (S' := (44, [(2, .int (nI (hsh l))), (0, .ref m0), (1, .int (nI l.length)), (3, .int (nI k))], [.int (nI (hsh l)), .ref (q 7)], M1)) rfl rfl rfl ?_
          refine pr_ld (a := 7) (j := hsh l) (y := (gI (gb tx tx.length (hsh l)))) (S' := (45, [(2, .int (nI (hsh l))), (0, .ref m0), (1, .int (nI l.length)), (3, .int (nI k))], [.int (gI (gb tx tx.length (hsh l)))], M1)) rfl hR1 rfl (by omega) (fun _ => hY1.2.2.2.1 (hsh l) (by omega)) rfl (fun i1_44 => ?_)
          refine ps_st (S' := (46, [(0, .ref m0), (1, .int (nI l.length)), (2, .int (nI (hsh l))), (3, .int (gI (gb tx tx.length (hsh l))))], [], M1)) rfl rfl rfl ?_
          exact ih.2.1 (tx.length) ((gI (gb tx tx.length (hsh l)))) M1 I1 R1 hR1 hEI1 hER1 hY1 hU1 (Nat.le_refl _) (rfl) (fun s h1 h2 => by omega)
        · have c_7 : ¬ ((nI l.length) ≤ (nI k)) := of_decide_eq_false c_7
          have n_7 : ¬ (l.length ≤ k) := fun h9 => c_7 ((le_nI (p := l.length) (n := k) (by omega) (by omega)).mpr h9)
          refine ps_st (S' := (12, [(0, .ref m0), (1, .int (nI l.length)), (2, .int (hp (fun i => l.getD i 0) k)), (3, .int (nI k))], [.int 31], M1)) rfl rfl rfl ?_
          refine ps_st (S' := (13, [(0, .ref m0), (1, .int (nI l.length)), (2, .int (hp (fun i => l.getD i 0) k)), (3, .int (nI k))], [.int (hp (fun i => l.getD i 0) k), .int 31], M1)) rfl rfl rfl ?_
          refine ps_st (S' := (14, [(0, .ref m0), (1, .int (nI l.length)), (2, .int (hp (fun i => l.getD i 0) k)), (3, .int (nI k))], [.int (31 * (hp (fun i => l.getD i 0) k))], M1)) rfl rfl rfl ?_
          refine ps_st (S' := (15, [(0, .ref m0), (1, .int (nI l.length)), (2, .int (hp (fun i => l.getD i 0) k)), (3, .int (nI k))], [.ref m0, .int (31 * (hp (fun i => l.getD i 0) k))], M1)) rfl rfl rfl ?_
          refine pr_ref (j := 2) (S' := (18, [(0, .ref m0), (1, .int (nI l.length)), (2, .int (hp (fun i => l.getD i 0) k)), (3, .int (nI k))], [.ref (q 2), .int (31 * (hp (fun i => l.getD i 0) k))], M1)) rfl hR1 rfl rfl ?_
          refine ps_st (S' := (19, [(0, .ref m0), (1, .int (nI l.length)), (2, .int (hp (fun i => l.getD i 0) k)), (3, .int (nI k))], [.int (nI k), .ref (q 2), .int (31 * (hp (fun i => l.getD i 0) k))], M1)) rfl rfl rfl ?_
          have hcu_19 := (hU1 k (by omega)).2
          refine pr_ld (a := 2) (j := k) (y := (nI (l.getD k 0))) (S' := (20, [(0, .ref m0), (1, .int (nI l.length)), (2, .int (hp (fun i => l.getD i 0) k)), (3, .int (nI k))], [.int (nI (l.getD k 0)), .int (31 * (hp (fun i => l.getD i 0) k))], M1)) rfl hR1 rfl (by omega) (fun _ => (hU1 k (by omega)).1) rfl (fun i1_19 => ?_)
          refine ps_st (S' := (21, [(0, .ref m0), (1, .int (nI l.length)), (2, .int (hp (fun i => l.getD i 0) k)), (3, .int (nI k))], [.int ((31 * (hp (fun i => l.getD i 0) k)) + (nI (l.getD k 0)))], M1)) rfl rfl rfl ?_
          refine ps_st (S' := (22, [(2, .int ((31 * (hp (fun i => l.getD i 0) k)) + (nI (l.getD k 0)))), (0, .ref m0), (1, .int (nI l.length)), (3, .int (nI k))], [], M1)) rfl rfl rfl ?_
          refine ps_st (S' := (25, [(3, .int ((nI k) + 1)), (2, .int ((31 * (hp (fun i => l.getD i 0) k)) + (nI (l.getD k 0)))), (0, .ref m0), (1, .int (nI l.length))], [], M1)) rfl rfl rfl ?_
          rw [nI_add1 (p := k) (k := 1) (x := 1) rfl (by omega)]
          show pl _ _ _ (_, [(3, .int (nI (k + 1))), (2, .int ((31 * (hp (fun i => l.getD i 0) k)) + (nI (l.getD k 0)))), (0, .ref m0), (1, .int (nI l.length))], [], M1) _
          refine ps_st (S' := (5, [(0, .ref m0), (1, .int (nI l.length)), (2, .int ((31 * (hp (fun i => l.getD i 0) k)) + (nI (l.getD k 0)))), (3, .int (nI (k + 1)))], [], M1)) rfl rfl rfl ?_
          exact ih.1 (k + 1) M1 I1 R1 hR1 hEI1 hER1 hY1 hU1 (by omega)
      · skip
        intro m c M1 I1 R1 hR1 hEI1 hER1 hY1 hU1 hm hc hno
        have hhl := hsh_lt l
        refine ps_st1 (S' := (47, [(0, .ref m0), (1, .int (nI l.length)), (2, .int (nI (hsh l))), (3, .int c)], [.int c], M1)) rfl rfl rfl ?_
        refine ps_if (S1 := (135, [(0, .ref m0), (1, .int (nI l.length)), (2, .int (nI (hsh l))), (3, .int c)], [], M1)) (S2 := (50, [(0, .ref m0), (1, .int (nI l.length)), (2, .int (nI (hsh l))), (3, .int c)], [], M1)) rfl rfl rfl (fun c_47 => ?_) (fun c_47 => ?_)
        · have c_47 : c < 0 := of_decide_eq_true c_47
          refine ps_st (S' := (136, [(0, .ref m0), (1, .int (nI l.length)), (2, .int (nI (hsh l))), (3, .int c)], [.int 0], M1)) rfl rfl rfl ?_
          refine ps_st (S' := (137, [(0, .ref m0), (1, .int (nI l.length)), (2, .int (nI (hsh l))), (3, .int 0)], [], M1)) rfl rfl rfl ?_
          exact ih.2.2.2 (0) M1 I1 R1 hR1 hEI1 hER1 hY1 hU1 CPY.nil (by omega) (by
              have hn9 := gI_none hc (fun t ht => by have := gb_some ht; omega) (by assumption)
              intro s hs h3
              by_cases e1 : m ≤ s
              · exact hno s e1 hs h3
              · exact gb_none hn9 s (by omega) (by rw [h3]))
        · have c_47 : ¬ (c < 0) := of_decide_eq_false c_47
          obtain ⟨t, ec, hg⟩ := gI_some hc (by assumption)
          subst ec
          obtain ⟨hg1, hg2, hg3⟩ := gb_some hg
          have hll := hY1.1.2.2
          refine ps_st (S' := (51, [(0, .ref m0), (1, .int (nI l.length)), (2, .int (nI (hsh l))), (3, .int (nI t))], [.ref m0], M1)) rfl rfl rfl ?_
          refine pr_ref (j := 5) (S' := (54, [(0, .ref m0), (1, .int (nI l.length)), (2, .int (nI (hsh l))), (3, .int (nI t))], [.ref (q 5)], M1)) rfl hR1 rfl rfl ?_
          refine ps_st (S' := (55, [(0, .ref m0), (1, .int (nI l.length)), (2, .int (nI (hsh l))), (3, .int (nI t))], [.int (nI t), .ref (q 5)], M1)) rfl rfl rfl ?_
          have hA_55 := (hY1.2.1 t (by omega)).2.2.1
          refine pr_ld (a := 5) (j := t) (y := (nI (tx.getD t []).length)) (S' := (56, [(0, .ref m0), (1, .int (nI l.length)), (2, .int (nI (hsh l))), (3, .int (nI t))], [.int (nI (tx.getD t []).length)], M1)) rfl hR1 rfl (by omega) (fun _ => (hY1.2.1 t (by omega)).2.1) rfl (fun i1_55 => ?_)
          refine ps_st (S' := (57, [(0, .ref m0), (1, .int (nI l.length)), (2, .int (nI (hsh l))), (3, .int (nI t))], [.int (nI l.length), .int (nI (tx.getD t []).length)], M1)) rfl rfl rfl ?_
          refine ps_if2 (S1 := (64, [(0, .ref m0), (1, .int (nI l.length)), (2, .int (nI (hsh l))), (3, .int (nI t))], [], M1)) (S2 := (60, [(0, .ref m0), (1, .int (nI l.length)), (2, .int (nI (hsh l))), (3, .int (nI t))], [], M1)) rfl rfl rfl (fun c_57 => ?_) (fun c_57 => ?_)
          · have c_57 : ¬ (nI (tx.getD t []).length) = (nI l.length) := of_decide_eq_true c_57
            have n_57 : ¬ ((tx.getD t []).length = l.length) := fun h9 => c_57 ((eq_nI (p := (tx.getD t []).length) (n := l.length) (by omega) (by omega)).mpr h9)
            refine ps_st (S' := (65, [(0, .ref m0), (1, .int (nI l.length)), (2, .int (nI (hsh l))), (3, .int (nI t))], [.int 0], M1)) rfl rfl rfl ?_
            refine ps_st (S' := (67, [(4, .int 0), (0, .ref m0), (1, .int (nI l.length)), (2, .int (nI (hsh l))), (3, .int (nI t))], [], M1)) rfl rfl rfl ?_
            refine ps_st (S' := (68, [(4, .int 0), (0, .ref m0), (1, .int (nI l.length)), (2, .int (nI (hsh l))), (3, .int (nI t))], [.int 0], M1)) rfl rfl rfl ?_
            refine ps_st (S' := (70, [(0, .ref m0), (1, .int (nI l.length)), (2, .int (nI (hsh l))), (3, .int (nI t)), (4, .int 0), (5, .int 0)], [], M1)) rfl rfl rfl ?_
            exact ih.2.2.1 (m) (t) (0) (0) M1 I1 R1 hR1 hEI1 hER1 hY1 hU1 (hm) (hg1) (hg2) (hg3) (hno) (by decide) (by omega) (fun h => absurd rfl h) (fun _ h => n_57 (by rw [h]))
          · have c_57 : ¬ (¬ (nI (tx.getD t []).length) = (nI l.length)) := of_decide_eq_false c_57
            have n_57 : (tx.getD t []).length = l.length := (eq_nI (p := (tx.getD t []).length) (n := l.length) (by omega) (by omega)).mp (Decidable.not_not.mp c_57)
            refine ps_st (S' := (61, [(0, .ref m0), (1, .int (nI l.length)), (2, .int (nI (hsh l))), (3, .int (nI t))], [.int 1], M1)) rfl rfl rfl ?_
            refine ps_st (S' := (65, [(0, .ref m0), (1, .int (nI l.length)), (2, .int (nI (hsh l))), (3, .int (nI t))], [.int 1], M1)) rfl rfl rfl ?_
            refine ps_st (S' := (67, [(4, .int 1), (0, .ref m0), (1, .int (nI l.length)), (2, .int (nI (hsh l))), (3, .int (nI t))], [], M1)) rfl rfl rfl ?_
            refine ps_st (S' := (68, [(4, .int 1), (0, .ref m0), (1, .int (nI l.length)), (2, .int (nI (hsh l))), (3, .int (nI t))], [.int 0], M1)) rfl rfl rfl ?_
            refine ps_st (S' := (70, [(0, .ref m0), (1, .int (nI l.length)), (2, .int (nI (hsh l))), (3, .int (nI t)), (4, .int 1), (5, .int 0)], [], M1)) rfl rfl rfl ?_
            exact ih.2.2.1 (m) (t) (0) (1) M1 I1 R1 hR1 hEI1 hER1 hY1 hU1 (hm) (hg1) (hg2) (hg3) (hno) (by decide) (by omega) (fun _ => ⟨by omega, fun i hi => by omega⟩) (fun h => absurd h (by decide))
      · skip
        intro m t k b M1 I1 R1 hR1 hEI1 hER1 hY1 hU1 hm hg1 hg2 hg3 hno hb2 hk hb1 hb0
        have hhl := hsh_lt l
        have hll := hY1.1.2.2
        refine ps_st1 (S' := (72, [(0, .ref m0), (1, .int (nI l.length)), (2, .int (nI (hsh l))), (3, .int (nI t)), (4, .int (nI b)), (5, .int (nI k))], [.int (nI k)], M1)) rfl rfl rfl ?_
        refine ps_st (S' := (73, [(0, .ref m0), (1, .int (nI l.length)), (2, .int (nI (hsh l))), (3, .int (nI t)), (4, .int (nI b)), (5, .int (nI k))], [.int (nI l.length), .int (nI k)], M1)) rfl rfl rfl ?_
        refine ps_if2 (S1 := (118, [(0, .ref m0), (1, .int (nI l.length)), (2, .int (nI (hsh l))), (3, .int (nI t)), (4, .int (nI b))], [], M1)) (S2 := (76, [(0, .ref m0), (1, .int (nI l.length)), (2, .int (nI (hsh l))), (3, .int (nI t)), (4, .int (nI b)), (5, .int (nI k))], [], M1)) rfl rfl rfl (fun c_73 => ?_) (fun c_73 => ?_)
        · have c_73 : (nI l.length) ≤ (nI k) := of_decide_eq_true c_73
          have n_73 : l.length ≤ k := (le_nI (p := l.length) (n := k) (by omega) (by omega)).mp c_73
          refine ps_st (S' := (120, [(0, .ref m0), (1, .int (nI l.length)), (2, .int (nI (hsh l))), (3, .int (nI t)), (4, .int (nI b))], [.int (nI b)], M1)) rfl rfl rfl ?_
          refine ps_if (S1 := (125, [(0, .ref m0), (1, .int (nI l.length)), (2, .int (nI (hsh l))), (3, .int (nI t)), (4, .int (nI b))], [], M1)) (S2 := (123, [(0, .ref m0), (1, .int (nI l.length)), (2, .int (nI (hsh l))), (3, .int (nI t)), (4, .int (nI b))], [], M1)) rfl rfl rfl (fun c_120 => ?_) (fun c_120 => ?_)
          · have c_120 : (nI b) = 0 := of_decide_eq_true c_120
            have n_120 : b = 0 := (eq_nI (p := b) (n := 0) (by omega) (by decide)).mp c_120
            refine ps_st (S' := (126, [(0, .ref m0), (1, .int (nI l.length)), (2, .int (nI (hsh l))), (3, .int (nI t)), (4, .int (nI b))], [.ref m0], M1)) rfl rfl rfl ?_
            refine pr_ref (j := 6) (S' := (129, [(0, .ref m0), (1, .int (nI l.length)), (2, .int (nI (hsh l))), (3, .int (nI t)), (4, .int (nI b))], [.ref (q 6)], M1)) rfl hR1 rfl rfl ?_
            refine ps_st (S' := (130, [(0, .ref m0), (1, .int (nI l.length)), (2, .int (nI (hsh l))), (3, .int (nI t)), (4, .int (nI b))], [.int (nI t), .ref (q 6)], M1)) rfl rfl rfl ?_
            refine pr_ld (a := 6) (j := t) (y := (gI (gb tx t (hsh (tx.getD t []))))) (S' := (131, [(0, .ref m0), (1, .int (nI l.length)), (2, .int (nI (hsh l))), (3, .int (nI t)), (4, .int (nI b))], [.int (gI (gb tx t (hsh (tx.getD t []))))], M1)) rfl hR1 rfl (by omega) (fun _ => hY1.2.2.1 t (by omega)) rfl (fun i1_130 => ?_)
            refine ps_st (S' := (132, [(3, .int (gI (gb tx t (hsh (tx.getD t []))))), (0, .ref m0), (1, .int (nI l.length)), (2, .int (nI (hsh l))), (4, .int (nI b))], [], M1)) rfl rfl rfl ?_
            refine ps_st (S' := (46, [(0, .ref m0), (1, .int (nI l.length)), (2, .int (nI (hsh l))), (3, .int (gI (gb tx t (hsh (tx.getD t [])))))], [], M1)) rfl rfl rfl ?_
            exact ih.2.1 (t) ((gI (gb tx t (hsh (tx.getD t []))))) M1 I1 R1 hR1 hEI1 hER1 hY1 hU1 (by omega) (by rw [hg2]) (by
                intro s h1 h2 h3
                by_cases e1 : s = t
                · rw [e1] at h3; exact hb0 (by omega) h3
                · by_cases e2 : s < m
                  · exact hg3 s (by omega) e2 (by rw [h3])
                  · exact hno s (by omega) h2 h3)
          · have c_120 : ¬ ((nI b) = 0) := of_decide_eq_false c_120
            have n_120 : ¬ (b = 0) := fun h9 => c_120 ((eq_nI (p := b) (n := 0) (by omega) (by decide)).mpr h9)
            refine ps_st (S' := (124, [(0, .ref m0), (1, .int (nI l.length)), (2, .int (nI (hsh l))), (3, .int (nI t)), (4, .int (nI b))], [.int (nI t)], M1)) rfl rfl rfl ?_
            exact ps_reti rfl (⟨tx, cN, A, t, I1, R1, ⟨by omega, ls_ext (hb1 (by omega)).1 (fun i hi => (hb1 (by omega)).2 i (by have := (hb1 (by omega)).1; omega))⟩, ⟨Nat.le_refl _, fun s _ => rfl⟩, rfl, hR1, hEI1, hER1, hY1⟩)
        · have c_73 : ¬ ((nI l.length) ≤ (nI k)) := of_decide_eq_false c_73
          have n_73 : ¬ (l.length ≤ k) := fun h9 => c_73 ((le_nI (p := l.length) (n := k) (by omega) (by omega)).mpr h9)
          refine ps_st (S' := (78, [(0, .ref m0), (1, .int (nI l.length)), (2, .int (nI (hsh l))), (3, .int (nI t)), (4, .int (nI b)), (5, .int (nI k))], [.int (nI b)], M1)) rfl rfl rfl ?_
          refine ps_if (S1 := (118, [(0, .ref m0), (1, .int (nI l.length)), (2, .int (nI (hsh l))), (3, .int (nI t)), (4, .int (nI b))], [], M1)) (S2 := (81, [(0, .ref m0), (1, .int (nI l.length)), (2, .int (nI (hsh l))), (3, .int (nI t)), (4, .int (nI b)), (5, .int (nI k))], [], M1)) rfl rfl rfl (fun c_78 => ?_) (fun c_78 => ?_)
          · have c_78 : (nI b) = 0 := of_decide_eq_true c_78
            have n_78 : b = 0 := (eq_nI (p := b) (n := 0) (by omega) (by decide)).mp c_78
            refine ps_st (S' := (120, [(0, .ref m0), (1, .int (nI l.length)), (2, .int (nI (hsh l))), (3, .int (nI t)), (4, .int (nI b))], [.int (nI b)], M1)) rfl rfl rfl ?_
            refine ps_if (S1 := (125, [(0, .ref m0), (1, .int (nI l.length)), (2, .int (nI (hsh l))), (3, .int (nI t)), (4, .int (nI b))], [], M1)) (S2 := (123, [(0, .ref m0), (1, .int (nI l.length)), (2, .int (nI (hsh l))), (3, .int (nI t)), (4, .int (nI b))], [], M1)) rfl rfl rfl (fun c_120 => ?_) (fun c_120 => ?_)
            · have c_120 : (nI b) = 0 := of_decide_eq_true c_120
              have n_120 : b = 0 := (eq_nI (p := b) (n := 0) (by omega) (by decide)).mp c_120
              refine ps_st (S' := (126, [(0, .ref m0), (1, .int (nI l.length)), (2, .int (nI (hsh l))), (3, .int (nI t)), (4, .int (nI b))], [.ref m0], M1)) rfl rfl rfl ?_
              refine pr_ref (j := 6) (S' := (129, [(0, .ref m0), (1, .int (nI l.length)), (2, .int (nI (hsh l))), (3, .int (nI t)), (4, .int (nI b))], [.ref (q 6)], M1)) rfl hR1 rfl rfl ?_
              refine ps_st (S' := (130, [(0, .ref m0), (1, .int (nI l.length)), (2, .int (nI (hsh l))), (3, .int (nI t)), (4, .int (nI b))], [.int (nI t), .ref (q 6)], M1)) rfl rfl rfl ?_
              refine pr_ld (a := 6) (j := t) (y := (gI (gb tx t (hsh (tx.getD t []))))) (S' := (131, [(0, .ref m0), (1, .int (nI l.length)), (2, .int (nI (hsh l))), (3, .int (nI t)), (4, .int (nI b))], [.int (gI (gb tx t (hsh (tx.getD t []))))], M1)) rfl hR1 rfl (by omega) (fun _ => hY1.2.2.1 t (by omega)) rfl (fun i1_130 => ?_)
              refine ps_st (S' := (132, [(3, .int (gI (gb tx t (hsh (tx.getD t []))))), (0, .ref m0), (1, .int (nI l.length)), (2, .int (nI (hsh l))), (4, .int (nI b))], [], M1)) rfl rfl rfl ?_
              refine ps_st (S' := (46, [(0, .ref m0), (1, .int (nI l.length)), (2, .int (nI (hsh l))), (3, .int (gI (gb tx t (hsh (tx.getD t [])))))], [], M1)) rfl rfl rfl ?_
              exact ih.2.1 (t) ((gI (gb tx t (hsh (tx.getD t []))))) M1 I1 R1 hR1 hEI1 hER1 hY1 hU1 (by omega) (by rw [hg2]) (by
                  intro s h1 h2 h3
                  by_cases e1 : s = t
                  · rw [e1] at h3; exact hb0 (by omega) h3
                  · by_cases e2 : s < m
                    · exact hg3 s (by omega) e2 (by rw [h3])
                    · exact hno s (by omega) h2 h3)
            · have c_120 : ¬ ((nI b) = 0) := of_decide_eq_false c_120
              have n_120 : ¬ (b = 0) := fun h9 => c_120 ((eq_nI (p := b) (n := 0) (by omega) (by decide)).mpr h9)
              refine ps_st (S' := (124, [(0, .ref m0), (1, .int (nI l.length)), (2, .int (nI (hsh l))), (3, .int (nI t)), (4, .int (nI b))], [.int (nI t)], M1)) rfl rfl rfl ?_
              exact ps_reti rfl (⟨tx, cN, A, t, I1, R1, ⟨by omega, ls_ext (hb1 (by omega)).1 (fun i hi => (hb1 (by omega)).2 i (by have := (hb1 (by omega)).1; omega))⟩, ⟨Nat.le_refl _, fun s _ => rfl⟩, rfl, hR1, hEI1, hER1, hY1⟩)
          · have c_78 : ¬ ((nI b) = 0) := of_decide_eq_false c_78
            have n_78 : ¬ (b = 0) := fun h9 => c_78 ((eq_nI (p := b) (n := 0) (by omega) (by decide)).mpr h9)
            refine ps_st (S' := (82, [(0, .ref m0), (1, .int (nI l.length)), (2, .int (nI (hsh l))), (3, .int (nI t)), (4, .int (nI b)), (5, .int (nI k))], [.ref m0], M1)) rfl rfl rfl ?_
            refine pr_ref (j := 1) (S' := (85, [(0, .ref m0), (1, .int (nI l.length)), (2, .int (nI (hsh l))), (3, .int (nI t)), (4, .int (nI b)), (5, .int (nI k))], [.ref (q 1)], M1)) rfl hR1 rfl rfl ?_
            refine ps_st (S' := (86, [(0, .ref m0), (1, .int (nI l.length)), (2, .int (nI (hsh l))), (3, .int (nI t)), (4, .int (nI b)), (5, .int (nI k))], [.ref m0, .ref (q 1)], M1)) rfl rfl rfl ?_
            refine pr_ref (j := 4) (S' := (89, [(0, .ref m0), (1, .int (nI l.length)), (2, .int (nI (hsh l))), (3, .int (nI t)), (4, .int (nI b)), (5, .int (nI k))], [.ref (q 4), .ref (q 1)], M1)) rfl hR1 rfl rfl ?_
            refine ps_st (S' := (90, [(0, .ref m0), (1, .int (nI l.length)), (2, .int (nI (hsh l))), (3, .int (nI t)), (4, .int (nI b)), (5, .int (nI k))], [.int (nI t), .ref (q 4), .ref (q 1)], M1)) rfl rfl rfl ?_
            have hA_90 := (hY1.2.1 t (by omega)).2.2.1
            refine pr_ld (a := 4) (j := t) (y := (nI (A t))) (S' := (91, [(0, .ref m0), (1, .int (nI l.length)), (2, .int (nI (hsh l))), (3, .int (nI t)), (4, .int (nI b)), (5, .int (nI k))], [.int (nI (A t)), .ref (q 1)], M1)) rfl hR1 rfl (by omega) (fun _ => (hY1.2.1 t (by omega)).1) rfl (fun i1_90 => ?_)
            refine ps_st (S' := (93, [(0, .ref m0), (1, .int (nI l.length)), (2, .int (nI (hsh l))), (3, .int (nI t)), (4, .int (nI b)), (5, .int (nI k))], [.int (nI k), .int (nI (A t)), .ref (q 1)], M1)) rfl rfl rfl ?_
            refine ps_st (S' := (94, [(0, .ref m0), (1, .int (nI l.length)), (2, .int (nI (hsh l))), (3, .int (nI t)), (4, .int (nI b)), (5, .int (nI k))], [.int ((nI (A t)) + (nI k)), .ref (q 1)], M1)) rfl rfl rfl ?_
            rw [nI_add1 (p := A t) (k := k) (x := (nI k)) rfl (by omega)]
            show pl _ _ _ (_, [(0, .ref m0), (1, .int (nI l.length)), (2, .int (nI (hsh l))), (3, .int (nI t)), (4, .int (nI b)), (5, .int (nI k))], [.int (nI (A t + k)), .ref (q 1)], M1) _
            have hch_94 := ((hY1.2.1 t (by omega)).2.2.2 k (by omega)).2
            refine pr_ld (a := 1) (j := A t + k) (y := (nI ((tx.getD t []).getD k 0))) (S' := (95, [(0, .ref m0), (1, .int (nI l.length)), (2, .int (nI (hsh l))), (3, .int (nI t)), (4, .int (nI b)), (5, .int (nI k))], [.int (nI ((tx.getD t []).getD k 0))], M1)) rfl hR1 rfl (by omega) (fun _ => ((hY1.2.1 t (by omega)).2.2.2 k (by omega)).1) rfl (fun i1_94 => ?_)
            refine ps_st (S' := (96, [(0, .ref m0), (1, .int (nI l.length)), (2, .int (nI (hsh l))), (3, .int (nI t)), (4, .int (nI b)), (5, .int (nI k))], [.ref m0, .int (nI ((tx.getD t []).getD k 0))], M1)) rfl rfl rfl ?_
            refine pr_ref (j := 2) (S' := (99, [(0, .ref m0), (1, .int (nI l.length)), (2, .int (nI (hsh l))), (3, .int (nI t)), (4, .int (nI b)), (5, .int (nI k))], [.ref (q 2), .int (nI ((tx.getD t []).getD k 0))], M1)) rfl hR1 rfl rfl ?_
            refine ps_st (S' := (101, [(0, .ref m0), (1, .int (nI l.length)), (2, .int (nI (hsh l))), (3, .int (nI t)), (4, .int (nI b)), (5, .int (nI k))], [.int (nI k), .ref (q 2), .int (nI ((tx.getD t []).getD k 0))], M1)) rfl rfl rfl ?_
            have hcu_101 := (hU1 k (by omega)).2
            refine pr_ld (a := 2) (j := k) (y := (nI (l.getD k 0))) (S' := (102, [(0, .ref m0), (1, .int (nI l.length)), (2, .int (nI (hsh l))), (3, .int (nI t)), (4, .int (nI b)), (5, .int (nI k))], [.int (nI (l.getD k 0)), .int (nI ((tx.getD t []).getD k 0))], M1)) rfl hR1 rfl (by omega) (fun _ => (hU1 k (by omega)).1) rfl (fun i1_101 => ?_)
            refine ps_if2 (S1 := (109, [(0, .ref m0), (1, .int (nI l.length)), (2, .int (nI (hsh l))), (3, .int (nI t)), (4, .int (nI b)), (5, .int (nI k))], [], M1)) (S2 := (105, [(0, .ref m0), (1, .int (nI l.length)), (2, .int (nI (hsh l))), (3, .int (nI t)), (4, .int (nI b)), (5, .int (nI k))], [], M1)) rfl rfl rfl (fun c_102 => ?_) (fun c_102 => ?_)
            · have c_102 : ¬ (nI ((tx.getD t []).getD k 0)) = (nI (l.getD k 0)) := of_decide_eq_true c_102
              have n_102 : ¬ ((tx.getD t []).getD k 0 = l.getD k 0) := fun h9 => c_102 ((eq_nI (p := (tx.getD t []).getD k 0) (n := l.getD k 0) (by omega) (by omega)).mpr h9)
              refine ps_st (S' := (110, [(0, .ref m0), (1, .int (nI l.length)), (2, .int (nI (hsh l))), (3, .int (nI t)), (5, .int (nI k))], [.int 0], M1)) rfl rfl rfl ?_
              refine ps_st (S' := (112, [(4, .int 0), (0, .ref m0), (1, .int (nI l.length)), (2, .int (nI (hsh l))), (3, .int (nI t)), (5, .int (nI k))], [], M1)) rfl rfl rfl ?_
              refine ps_st (S' := (115, [(5, .int ((nI k) + 1)), (4, .int 0), (0, .ref m0), (1, .int (nI l.length)), (2, .int (nI (hsh l))), (3, .int (nI t))], [], M1)) rfl rfl rfl ?_
              rw [nI_add1 (p := k) (k := 1) (x := 1) rfl (by omega)]
              show pl _ _ _ (_, [(5, .int (nI (k + 1))), (4, .int 0), (0, .ref m0), (1, .int (nI l.length)), (2, .int (nI (hsh l))), (3, .int (nI t))], [], M1) _
              refine ps_st (S' := (70, [(0, .ref m0), (1, .int (nI l.length)), (2, .int (nI (hsh l))), (3, .int (nI t)), (4, .int 0), (5, .int (nI (k + 1)))], [], M1)) rfl rfl rfl ?_
              exact ih.2.2.1 (m) (t) (k + 1) (0) M1 I1 R1 hR1 hEI1 hER1 hY1 hU1 (hm) (hg1) (hg2) (hg3) (hno) (by decide) (by omega) (fun h => absurd rfl h) (fun _ h => n_102 (by rw [h]))
            · have c_102 : ¬ (¬ (nI ((tx.getD t []).getD k 0)) = (nI (l.getD k 0))) := of_decide_eq_false c_102
              have n_102 : (tx.getD t []).getD k 0 = l.getD k 0 := (eq_nI (p := (tx.getD t []).getD k 0) (n := l.getD k 0) (by omega) (by omega)).mp (Decidable.not_not.mp c_102)
              refine ps_st (S' := (106, [(0, .ref m0), (1, .int (nI l.length)), (2, .int (nI (hsh l))), (3, .int (nI t)), (4, .int (nI b)), (5, .int (nI k))], [.int 1], M1)) rfl rfl rfl ?_
              refine ps_st (S' := (110, [(0, .ref m0), (1, .int (nI l.length)), (2, .int (nI (hsh l))), (3, .int (nI t)), (5, .int (nI k))], [.int 1], M1)) rfl rfl rfl ?_
              refine ps_st (S' := (112, [(4, .int 1), (0, .ref m0), (1, .int (nI l.length)), (2, .int (nI (hsh l))), (3, .int (nI t)), (5, .int (nI k))], [], M1)) rfl rfl rfl ?_
              refine ps_st (S' := (115, [(5, .int ((nI k) + 1)), (4, .int 1), (0, .ref m0), (1, .int (nI l.length)), (2, .int (nI (hsh l))), (3, .int (nI t))], [], M1)) rfl rfl rfl ?_
              rw [nI_add1 (p := k) (k := 1) (x := 1) rfl (by omega)]
              show pl _ _ _ (_, [(5, .int (nI (k + 1))), (4, .int 1), (0, .ref m0), (1, .int (nI l.length)), (2, .int (nI (hsh l))), (3, .int (nI t))], [], M1) _
              refine ps_st (S' := (70, [(0, .ref m0), (1, .int (nI l.length)), (2, .int (nI (hsh l))), (3, .int (nI t)), (4, .int 1), (5, .int (nI (k + 1)))], [], M1)) rfl rfl rfl ?_
              exact ih.2.2.1 (m) (t) (k + 1) (1) M1 I1 R1 hR1 hEI1 hER1 hY1 hU1 (hm) (hg1) (hg2) (hg3) (hno) (by decide) (by omega) (by
                  intro _
                  refine ⟨(hb1 n_78).1, fun i hi => ?_⟩
                  by_cases e : i = k
                  · rw [e]; exact n_102
                  · exact (hb1 n_78).2 i (by omega)) (fun h => absurd h (by decide))
      · skip
        intro k M1 I1 R1 hR1 hEI1 hER1 hY1 hU1 hP1 hk hno
        have hhl := hsh_lt l
        have hll := hY1.1.2.2
        refine ps_st1 (S' := (138, [(0, .ref m0), (1, .int (nI l.length)), (2, .int (nI (hsh l))), (3, .int (nI k))], [.int (nI k)], M1)) rfl rfl rfl ?_
        refine ps_st (S' := (139, [(0, .ref m0), (1, .int (nI l.length)), (2, .int (nI (hsh l))), (3, .int (nI k))], [.int (nI l.length), .int (nI k)], M1)) rfl rfl rfl ?_
        refine ps_if2 (S1 := (165, [(0, .ref m0), (1, .int (nI l.length)), (2, .int (nI (hsh l))), (3, .int (nI k))], [], M1)) (S2 := (142, [(0, .ref m0), (1, .int (nI l.length)), (2, .int (nI (hsh l))), (3, .int (nI k))], [], M1)) rfl rfl rfl (fun c_139 => ?_) (fun c_139 => ?_)
        · have c_139 : (nI l.length) ≤ (nI k) := of_decide_eq_true c_139
          have n_139 : l.length ≤ k := (le_nI (p := l.length) (n := k) (by omega) (by omega)).mp c_139
          have ek : k = l.length := by omega
          have hP9 := hP1
          rw [ek] at hP9
          refine ps_st (S' := (166, [(0, .ref m0), (1, .int (nI l.length)), (2, .int (nI (hsh l))), (3, .int (nI k))], [.ref m0], M1)) rfl rfl rfl ?_
          refine ps_st (S' := (167, [(0, .ref m0), (1, .int (nI l.length)), (2, .int (nI (hsh l))), (3, .int (nI k))], [.ref m0, .ref m0], M1)) rfl rfl rfl ?_
          refine pr_int (j := 8) (S' := (170, [(0, .ref m0), (1, .int (nI l.length)), (2, .int (nI (hsh l))), (3, .int (nI k))], [.int (nI tx.length), .ref m0], M1)) rfl hR1 rfl hY1.1.1 rfl ?_
          refine ps_st (S' := (171, [(0, .ref m0), (1, .int (nI l.length)), (2, .int (nI (hsh l))), (3, .int (nI k))], [.int (nI tx.length), .ref m0, .int (nI tx.length)], M1)) rfl rfl rfl ?_
          refine ps_st (S' := (172, [(0, .ref m0), (1, .int (nI l.length)), (2, .int (nI (hsh l))), (3, .int (nI k))], [.int 1, .int (nI tx.length), .ref m0, .int (nI tx.length)], M1)) rfl rfl rfl ?_
          refine ps_st (S' := (173, [(0, .ref m0), (1, .int (nI l.length)), (2, .int (nI (hsh l))), (3, .int (nI k))], [.int ((nI tx.length) + 1), .ref m0, .int (nI tx.length)], M1)) rfl rfl rfl ?_
          rw [nI_add1 (p := tx.length) (k := 1) (x := 1) rfl (by omega)]
          show pl _ _ _ (_, [(0, .ref m0), (1, .int (nI l.length)), (2, .int (nI (hsh l))), (3, .int (nI k))], [.int (nI (tx.length + 1)), .ref m0, .int (nI tx.length)], M1) _
          refine pr_put (j := 8) rfl hR1 rfl (fun M1 I2 hR3 hi4 hI5 => ?_)
          have hi6 := (hI5 3 (by decide)).trans hY1.1.2.1
          have hU_7 := hU1.mono (pIx hI5 (by decide)) (fun _ _ => rfl)
          have hP_8 := hP1.mono (pIx hI5 (by decide)) (fun _ _ => rfl)
          have hEI9 := hEI1.put hI5 (by decide)
          show pl _ _ _ (176, [(0, .ref m0), (1, .int (nI l.length)), (2, .int (nI (hsh l))), (3, .int (nI k))], [.int (nI tx.length)], M1) _
          refine ps_st (S' := (177, [(3, .int (nI tx.length)), (0, .ref m0), (1, .int (nI l.length)), (2, .int (nI (hsh l)))], [], M1)) rfl rfl rfl ?_
          refine ps_st (S' := (178, [(3, .int (nI tx.length)), (0, .ref m0), (1, .int (nI l.length)), (2, .int (nI (hsh l)))], [.ref m0], M1)) rfl rfl rfl ?_
          refine pr_ref (j := 4) (S' := (181, [(3, .int (nI tx.length)), (0, .ref m0), (1, .int (nI l.length)), (2, .int (nI (hsh l)))], [.ref (q 4)], M1)) rfl hR3 rfl rfl ?_
          refine ps_st (S' := (182, [(3, .int (nI tx.length)), (0, .ref m0), (1, .int (nI l.length)), (2, .int (nI (hsh l)))], [.int (nI tx.length), .ref (q 4)], M1)) rfl rfl rfl ?_
          refine ps_st (S' := (183, [(3, .int (nI tx.length)), (0, .ref m0), (1, .int (nI l.length)), (2, .int (nI (hsh l)))], [.ref m0, .int (nI tx.length), .ref (q 4)], M1)) rfl rfl rfl ?_
          refine pr_int (j := 3) (S' := (186, [(3, .int (nI tx.length)), (0, .ref m0), (1, .int (nI l.length)), (2, .int (nI (hsh l)))], [.int (nI cN), .int (nI tx.length), .ref (q 4)], M1)) rfl hR3 rfl hi6 rfl ?_
          refine pr_st (a := 4) (j := tx.length) rfl hR3 rfl (by omega) (fun M10 R11 i1_186 hR12 hS13 => ?_)
          have hU_14 := hU_7.mono (fun _ _ => rfl) (rRx hS13 (by decide))
          have hP_15 := hP_8.mono (fun _ _ => rfl) (rRx hS13 (by decide))
          have hER16 := hER1.st hS13 (by decide)
          show pl _ _ _ (187, [(3, .int (nI tx.length)), (0, .ref m0), (1, .int (nI l.length)), (2, .int (nI (hsh l)))], [], M10) _
          refine ps_st (S' := (188, [(3, .int (nI tx.length)), (0, .ref m0), (1, .int (nI l.length)), (2, .int (nI (hsh l)))], [.ref m0], M10)) rfl rfl rfl ?_
          refine pr_ref (j := 5) (S' := (191, [(3, .int (nI tx.length)), (0, .ref m0), (1, .int (nI l.length)), (2, .int (nI (hsh l)))], [.ref (q 5)], M10)) rfl hR12 rfl rfl ?_
          refine ps_st (S' := (192, [(3, .int (nI tx.length)), (0, .ref m0), (1, .int (nI l.length)), (2, .int (nI (hsh l)))], [.int (nI tx.length), .ref (q 5)], M10)) rfl rfl rfl ?_
          refine ps_st (S' := (193, [(3, .int (nI tx.length)), (0, .ref m0), (1, .int (nI l.length)), (2, .int (nI (hsh l)))], [.int (nI l.length), .int (nI tx.length), .ref (q 5)], M10)) rfl rfl rfl ?_
          refine pr_st (a := 5) (j := tx.length) rfl hR12 rfl (by omega) (fun M17 R18 i1_193 hR19 hS20 => ?_)
          have hU_21 := hU_14.mono (fun _ _ => rfl) (rRx hS20 (by decide))
          have hP_22 := hP_15.mono (fun _ _ => rfl) (rRx hS20 (by decide))
          have hER23 := hER16.st hS20 (by decide)
          show pl _ _ _ (194, [(3, .int (nI tx.length)), (0, .ref m0), (1, .int (nI l.length)), (2, .int (nI (hsh l)))], [], M17) _
          refine ps_st (S' := (195, [(3, .int (nI tx.length)), (0, .ref m0), (1, .int (nI l.length)), (2, .int (nI (hsh l)))], [.ref m0], M17)) rfl rfl rfl ?_
          refine pr_ref (j := 6) (S' := (198, [(3, .int (nI tx.length)), (0, .ref m0), (1, .int (nI l.length)), (2, .int (nI (hsh l)))], [.ref (q 6)], M17)) rfl hR19 rfl rfl ?_
          refine ps_st (S' := (199, [(3, .int (nI tx.length)), (0, .ref m0), (1, .int (nI l.length)), (2, .int (nI (hsh l)))], [.int (nI tx.length), .ref (q 6)], M17)) rfl rfl rfl ?_
          refine ps_st (S' := (200, [(3, .int (nI tx.length)), (0, .ref m0), (1, .int (nI l.length)), (2, .int (nI (hsh l)))], [.ref m0, .int (nI tx.length), .ref (q 6)], M17)) rfl rfl rfl ?_
          refine pr_ref (j := 7) (S' := (203, [(3, .int (nI tx.length)), (0, .ref m0), (1, .int (nI l.length)), (2, .int (nI (hsh l)))], [.ref (q 7), .int (nI tx.length), .ref (q 6)], M17)) rfl hR19 rfl rfl ?_
          refine ps_st (S' := (204, [(3, .int (nI tx.length)), (0, .ref m0), (1, .int (nI l.length)), (2, .int (nI (hsh l)))], [.int (nI (hsh l)), .ref (q 7), .int (nI tx.length), .ref (q 6)], M17)) rfl rfl rfl ?_
          refine pr_ld (a := 7) (j := hsh l) (y := (gI (gb tx tx.length (hsh l)))) (S' := (205, [(3, .int (nI tx.length)), (0, .ref m0), (1, .int (nI l.length)), (2, .int (nI (hsh l)))], [.int (gI (gb tx tx.length (hsh l))), .int (nI tx.length), .ref (q 6)], M17)) rfl hR19 rfl (by omega) (by
              intro _
              rw [hS20, rset_ne (by decide), hS13, rset_ne (by decide)]
              exact hY1.2.2.2.1 (hsh l) (by omega)) rfl (fun i1_204 => ?_)
          refine pr_st (a := 6) (j := tx.length) rfl hR19 rfl (by omega) (fun M24 R25 i1_205 hR26 hS27 => ?_)
          have hU_28 := hU_21.mono (fun _ _ => rfl) (rRx hS27 (by decide))
          have hP_29 := hP_22.mono (fun _ _ => rfl) (rRx hS27 (by decide))
          have hER30 := hER23.st hS27 (by decide)
          show pl _ _ _ (206, [(3, .int (nI tx.length)), (0, .ref m0), (1, .int (nI l.length)), (2, .int (nI (hsh l)))], [], M24) _
          refine ps_st (S' := (207, [(3, .int (nI tx.length)), (0, .ref m0), (1, .int (nI l.length)), (2, .int (nI (hsh l)))], [.ref m0], M24)) rfl rfl rfl ?_
          refine pr_ref (j := 7) (S' := (210, [(3, .int (nI tx.length)), (0, .ref m0), (1, .int (nI l.length)), (2, .int (nI (hsh l)))], [.ref (q 7)], M24)) rfl hR26 rfl rfl ?_
          refine ps_st (S' := (211, [(3, .int (nI tx.length)), (0, .ref m0), (1, .int (nI l.length)), (2, .int (nI (hsh l)))], [.int (nI (hsh l)), .ref (q 7)], M24)) rfl rfl rfl ?_
          refine ps_st (S' := (212, [(3, .int (nI tx.length)), (0, .ref m0), (1, .int (nI l.length)), (2, .int (nI (hsh l)))], [.int (nI tx.length), .int (nI (hsh l)), .ref (q 7)], M24)) rfl rfl rfl ?_
          refine pr_st (a := 7) (j := hsh l) rfl hR26 rfl (by omega) (fun M31 R32 i1_212 hR33 hS34 => ?_)
          have hU_35 := hU_28.mono (fun _ _ => rfl) (rRx hS34 (by decide))
          have hP_36 := hP_29.mono (fun _ _ => rfl) (rRx hS34 (by decide))
          have hER37 := hER30.st hS34 (by decide)
          show pl _ _ _ (213, [(3, .int (nI tx.length)), (0, .ref m0), (1, .int (nI l.length)), (2, .int (nI (hsh l)))], [], M31) _
          refine ps_st (S' := (214, [(3, .int (nI tx.length)), (0, .ref m0), (1, .int (nI l.length)), (2, .int (nI (hsh l)))], [.ref m0], M31)) rfl rfl rfl ?_
          refine ps_st (S' := (215, [(3, .int (nI tx.length)), (0, .ref m0), (1, .int (nI l.length)), (2, .int (nI (hsh l)))], [.ref m0, .ref m0], M31)) rfl rfl rfl ?_
          refine pr_int (j := 3) (S' := (218, [(3, .int (nI tx.length)), (0, .ref m0), (1, .int (nI l.length)), (2, .int (nI (hsh l)))], [.int (nI cN), .ref m0], M31)) rfl hR33 rfl hi6 rfl ?_
          refine ps_st (S' := (219, [(3, .int (nI tx.length)), (0, .ref m0), (1, .int (nI l.length)), (2, .int (nI (hsh l)))], [.int (nI l.length), .int (nI cN), .ref m0], M31)) rfl rfl rfl ?_
          refine ps_st (S' := (220, [(3, .int (nI tx.length)), (0, .ref m0), (1, .int (nI l.length)), (2, .int (nI (hsh l)))], [.int ((nI cN) + (nI l.length)), .ref m0], M31)) rfl rfl rfl ?_
          rw [nI_add1 (p := cN) (k := l.length) (x := (nI l.length)) rfl (by omega)]
          show pl _ _ _ (_, [(3, .int (nI tx.length)), (0, .ref m0), (1, .int (nI l.length)), (2, .int (nI (hsh l)))], [.int (nI (cN + l.length)), .ref m0], M31) _
          refine pr_put (j := 3) rfl hR33 rfl (fun M38 I39 hR40 hi41 hI42 => ?_)
          have hi43 := (hI42 8 (by decide)).trans hi4
          have hU_44 := hU_35.mono (pIx hI42 (by decide)) (fun _ _ => rfl)
          have hP_45 := hP_36.mono (pIx hI42 (by decide)) (fun _ _ => rfl)
          have hEI46 := hEI9.put hI42 (by decide)
          show pl _ _ _ (223, [(3, .int (nI tx.length)), (0, .ref m0), (1, .int (nI l.length)), (2, .int (nI (hsh l)))], [], M38) _
          refine ps_st (S' := (224, [(3, .int (nI tx.length)), (0, .ref m0), (1, .int (nI l.length)), (2, .int (nI (hsh l)))], [.int (nI tx.length)], M38)) rfl rfl rfl ?_
          have hY9 := SYT.add (I' := I39) hY1 hP9 hno hS13 hS20 hS27 hS34 hi43 hi41 (by omega) (by omega)
          exact ps_reti rfl (⟨tx ++ [l], _, _, tx.length, I39, R32, ⟨by simp, gd_at⟩, ⟨by simp, fun s hs => gd_ap hs⟩, rfl, hR40, hEI46, hER37, hY9⟩)
        · have c_139 : ¬ ((nI l.length) ≤ (nI k)) := of_decide_eq_false c_139
          have n_139 : ¬ (l.length ≤ k) := fun h9 => c_139 ((le_nI (p := l.length) (n := k) (by omega) (by omega)).mpr h9)
          refine ps_st (S' := (143, [(0, .ref m0), (1, .int (nI l.length)), (2, .int (nI (hsh l))), (3, .int (nI k))], [.ref m0], M1)) rfl rfl rfl ?_
          refine pr_ref (j := 1) (S' := (146, [(0, .ref m0), (1, .int (nI l.length)), (2, .int (nI (hsh l))), (3, .int (nI k))], [.ref (q 1)], M1)) rfl hR1 rfl rfl ?_
          refine ps_st (S' := (147, [(0, .ref m0), (1, .int (nI l.length)), (2, .int (nI (hsh l))), (3, .int (nI k))], [.ref m0, .ref (q 1)], M1)) rfl rfl rfl ?_
          refine pr_int (j := 3) (S' := (150, [(0, .ref m0), (1, .int (nI l.length)), (2, .int (nI (hsh l))), (3, .int (nI k))], [.int (nI cN), .ref (q 1)], M1)) rfl hR1 rfl hY1.1.2.1 rfl ?_
          refine ps_st (S' := (151, [(0, .ref m0), (1, .int (nI l.length)), (2, .int (nI (hsh l))), (3, .int (nI k))], [.int (nI k), .int (nI cN), .ref (q 1)], M1)) rfl rfl rfl ?_
          refine ps_st (S' := (152, [(0, .ref m0), (1, .int (nI l.length)), (2, .int (nI (hsh l))), (3, .int (nI k))], [.int ((nI cN) + (nI k)), .ref (q 1)], M1)) rfl rfl rfl ?_
          rw [nI_add1 (p := cN) (k := k) (x := (nI k)) rfl (by omega)]
          show pl _ _ _ (_, [(0, .ref m0), (1, .int (nI l.length)), (2, .int (nI (hsh l))), (3, .int (nI k))], [.int (nI (cN + k)), .ref (q 1)], M1) _
          refine ps_st (S' := (153, [(0, .ref m0), (1, .int (nI l.length)), (2, .int (nI (hsh l))), (3, .int (nI k))], [.ref m0, .int (nI (cN + k)), .ref (q 1)], M1)) rfl rfl rfl ?_
          refine pr_ref (j := 2) (S' := (156, [(0, .ref m0), (1, .int (nI l.length)), (2, .int (nI (hsh l))), (3, .int (nI k))], [.ref (q 2), .int (nI (cN + k)), .ref (q 1)], M1)) rfl hR1 rfl rfl ?_
          refine ps_st (S' := (157, [(0, .ref m0), (1, .int (nI l.length)), (2, .int (nI (hsh l))), (3, .int (nI k))], [.int (nI k), .ref (q 2), .int (nI (cN + k)), .ref (q 1)], M1)) rfl rfl rfl ?_
          have hcu_157 := (hU1 k (by omega)).2
          refine pr_ld (a := 2) (j := k) (y := (nI (l.getD k 0))) (S' := (158, [(0, .ref m0), (1, .int (nI l.length)), (2, .int (nI (hsh l))), (3, .int (nI k))], [.int (nI (l.getD k 0)), .int (nI (cN + k)), .ref (q 1)], M1)) rfl hR1 rfl (by omega) (fun _ => (hU1 k (by omega)).1) rfl (fun i1_157 => ?_)
          refine pr_st (a := 1) (j := cN + k) rfl hR1 rfl (by omega) (fun M47 R48 i1_158 hR49 hS50 => ?_)
          have hU_51 := hU1.mono (fun _ _ => rfl) (rRx hS50 (by decide))
          have hER52 := hER1.st hS50 (by decide)
          show pl _ _ _ (159, [(0, .ref m0), (1, .int (nI l.length)), (2, .int (nI (hsh l))), (3, .int (nI k))], [], M47) _
          have hY_53 := hY1.wr hS50 (by omega)
          have hP_54 := hP1.snoc hS50 (hU1 k (by omega)).2
          refine ps_st (S' := (162, [(3, .int ((nI k) + 1)), (0, .ref m0), (1, .int (nI l.length)), (2, .int (nI (hsh l)))], [], M47)) rfl rfl rfl ?_
          rw [nI_add1 (p := k) (k := 1) (x := 1) rfl (by omega)]
          show pl _ _ _ (_, [(3, .int (nI (k + 1))), (0, .ref m0), (1, .int (nI l.length)), (2, .int (nI (hsh l)))], [], M47) _
          refine ps_st (S' := (137, [(0, .ref m0), (1, .int (nI l.length)), (2, .int (nI (hsh l))), (3, .int (nI (k + 1)))], [], M47)) rfl rfl rfl ?_
          exact ih.2.2.2 (k + 1) M47 I1 R48 hR49 hEI1 hER52 hY_53 hU_51 hP_54 (by omega) (hno)
  refine ps_st (S' := (2, [(0, .ref m0), (1, .int (nI l.length))], [.int 7], M)) rfl rfl rfl ?_
  refine ps_st (S' := (3, [(2, .int 7), (0, .ref m0), (1, .int (nI l.length))], [], M)) rfl rfl rfl ?_
  refine ps_st (S' := (4, [(2, .int 7), (0, .ref m0), (1, .int (nI l.length))], [.int 0], M)) rfl rfl rfl ?_
  refine ps_st (S' := (5, [(0, .ref m0), (1, .int (nI l.length)), (2, .int 7), (3, .int 0)], [], M)) rfl rfl rfl ?_
  exact (LL kf).1 (0) M I R hR hEI hER hY hU (by omega)
set_option maxHeartbeats 1000000 in
theorem rd_symbolS {g : xe_G} {m0 : Nat} {q : Nat → Nat} {z : Nat × Nat} {I : rI} {R : rR} {M : mi_H} {tx : List (List Nat)} {cN : Nat} {A : Nat → Nat} {lk : Nat} (hR : RS g m0 q z I R M)  (hY : SYT tx cN A I R) (hlk : rlk lk) : pt (mT g) 246 [.ref m0, .ref (g.2.1 lk)] M (fun v M' => (∃ (tx2 : List (List Nat)) (cN2 : Nat) (A2 : Nat → Nat) (x : Nat) (I' : rI) (R' : rR), (x < tx2.length ∧ tx2.getD x [] = ltx lk) ∧ (tx.length ≤ tx2.length ∧ ∀ s, s < tx.length → tx2.getD s [] = tx.getD s []) ∧ v = some (.int (nI x)) ∧ RS g m0 q z I' R' M' ∧ eqI [3, 8] I I' ∧ eqR [1, 2, 4, 5, 6, 7] R R' ∧ SYT tx2 cN2 A2 I' R')) := by
  refine pt_in (b := mb_246 g) rfl (fun kf => ?_)
  show pl (mT g) kf (mb_246 g).2 (0, [(0, .ref m0), (1, .ref (g.2.1 lk))], [], M) _
  have hEI : eqI [3, 8] I I := eqI.rf
  have hER : eqR [1, 2, 4, 5, 6, 7] R R := eqR.rf
  have hle := lt_len lk hlk
  have hln := ltx_len lk
  have LL : ∀ (kf : Nat), (∀ (k : Nat) (M1 : mi_H) (I1 : rI) (R1 : rR), (RS g m0 q z I1 R1 M1) → (eqI [3, 8] I I1) → (eqR [1, 2, 4, 5, 6, 7] R R1) → (SYT tx cN A I1 R1) → (CUW (ltx lk) k I1 R1) → (k ≤ (xe_lt lk).2.2.2.length) →  pl (mT g) kf (mb_246 g).2 (2, [(0, .ref m0), (1, .ref (g.2.1 lk)), (2, .int (nI k))], [], M1) (fun v M' => (∃ (tx2 : List (List Nat)) (cN2 : Nat) (A2 : Nat → Nat) (x : Nat) (I' : rI) (R' : rR), (x < tx2.length ∧ tx2.getD x [] = ltx lk) ∧ (tx.length ≤ tx2.length ∧ ∀ s, s < tx.length → tx2.getD s [] = tx.getD s []) ∧ v = some (.int (nI x)) ∧ RS g m0 q z I' R' M' ∧ eqI [3, 8] I I' ∧ eqR [1, 2, 4, 5, 6, 7] R R' ∧ SYT tx2 cN2 A2 I' R'))) := by
    intro kf
    induction kf with
    | zero => exact (by intros; exact pl_0)
    | succ kf ih =>
      intro k M1 I1 R1 hR1 hEI1 hER1 hY1 hU1 hk
      have hle := lt_len lk hlk
      have hln := ltx_len lk
      refine ps_st1 (S' := (3, [(0, .ref m0), (1, .ref (g.2.1 lk)), (2, .int (nI k))], [.int (nI k)], M1)) rfl rfl rfl ?_
      refine ps_st (S' := (4, [(0, .ref m0), (1, .ref (g.2.1 lk)), (2, .int (nI k))], [.ref (g.2.1 lk), .int (nI k)], M1)) rfl rfl rfl ?_
      refine pr_slen (lk := lk) (S' := (7, [(0, .ref m0), (1, .ref (g.2.1 lk)), (2, .int (nI k))], [.int (nI (xe_lt lk).2.2.2.length), .int (nI k)], M1)) rfl hR1 (hlk) rfl rfl ?_
      refine ps_if2 (S1 := (27, [(0, .ref m0), (1, .ref (g.2.1 lk)), (2, .int (nI k))], [], M1)) (S2 := (10, [(0, .ref m0), (1, .ref (g.2.1 lk)), (2, .int (nI k))], [], M1)) rfl rfl rfl (fun c_7 => ?_) (fun c_7 => ?_)
      · have c_7 : (nI (xe_lt lk).2.2.2.length) ≤ (nI k) := of_decide_eq_true c_7
        have n_7 : (xe_lt lk).2.2.2.length ≤ k := (le_nI (p := (xe_lt lk).2.2.2.length) (n := k) (by omega) (by omega)).mp c_7
        refine ps_st (S' := (28, [(0, .ref m0), (1, .ref (g.2.1 lk)), (2, .int (nI k))], [.ref m0], M1)) rfl rfl rfl ?_
        refine ps_st (S' := (29, [(0, .ref m0), (1, .ref (g.2.1 lk)), (2, .int (nI k))], [.ref (g.2.1 lk), .ref m0], M1)) rfl rfl rfl ?_
        refine pr_slen (lk := lk) (S' := (32, [(0, .ref m0), (1, .ref (g.2.1 lk)), (2, .int (nI k))], [.int (nI (xe_lt lk).2.2.2.length), .ref m0], M1)) rfl hR1 (hlk) rfl rfl ?_
        have ek : k = (ltx lk).length := by omega
        have hU9 := hU1
        rw [ek] at hU9
        rw [show (xe_lt lk).2.2.2.length = (ltx lk).length from hln.symm]
        refine pl_call (a := [.ref m0, .int (nI (ltx lk).length)]) (rest := []) rfl rfl rfl (rd_symbol (tx := tx) (cN := cN) (A := A) (l := (ltx lk)) hR1 hY1 hU9 (by omega)) (fun v1 M2 q3 => ?_)
        obtain ⟨tx24, cN25, A26, x7, I8, R9, q32_x, q32_k, rfl, hR10, hI11, hX12, hY_13⟩ := q3
        have hU_14 := hU9.mono (cIx hI11 (by decide)) (cRx hX12 (by decide))
        have hEI15 := hEI1.tr hI11 (by decide)
        have hER16 := hER1.tr hX12 (by decide)
        show pl _ _ _ (35, [(0, .ref m0), (1, .ref (g.2.1 lk)), (2, .int (nI k))], [.int (nI x7)], M2) _
        exact ps_reti rfl (⟨tx24, cN25, A26, x7, I8, R9, q32_x, q32_k, rfl, hR10, hEI15, hER16, hY_13⟩)
      · have c_7 : ¬ ((nI (xe_lt lk).2.2.2.length) ≤ (nI k)) := of_decide_eq_false c_7
        have n_7 : ¬ ((xe_lt lk).2.2.2.length ≤ k) := fun h9 => c_7 ((le_nI (p := (xe_lt lk).2.2.2.length) (n := k) (by omega) (by omega)).mpr h9)
        refine ps_st (S' := (11, [(0, .ref m0), (1, .ref (g.2.1 lk)), (2, .int (nI k))], [.ref m0], M1)) rfl rfl rfl ?_
        refine pr_ref (j := 2) (S' := (14, [(0, .ref m0), (1, .ref (g.2.1 lk)), (2, .int (nI k))], [.ref (q 2)], M1)) rfl hR1 rfl rfl ?_
        refine ps_st (S' := (15, [(0, .ref m0), (1, .ref (g.2.1 lk)), (2, .int (nI k))], [.int (nI k), .ref (q 2)], M1)) rfl rfl rfl ?_
        refine ps_st (S' := (16, [(0, .ref m0), (1, .ref (g.2.1 lk)), (2, .int (nI k))], [.ref (g.2.1 lk), .int (nI k), .ref (q 2)], M1)) rfl rfl rfl ?_
        refine ps_st (S' := (17, [(0, .ref m0), (1, .ref (g.2.1 lk)), (2, .int (nI k))], [.int (nI k), .ref (g.2.1 lk), .int (nI k), .ref (q 2)], M1)) rfl rfl rfl ?_
        refine pr_schar (lk := lk) (j := k) (S' := (20, [(0, .ref m0), (1, .ref (g.2.1 lk)), (2, .int (nI k))], [.int (nI ((ltx lk).getD k 0)), .int (nI k), .ref (q 2)], M1)) rfl hR1 (hlk) (by omega) rfl ?_
        refine pr_st (a := 2) (j := k) rfl hR1 rfl (by omega) (fun M17 R18 i1_20 hR19 hS20 => ?_)
        have hY_21 := hY1.mono (fun _ _ => rfl) (rRx hS20 (by decide))
        have hER22 := hER1.st hS20 (by decide)
        show pl _ _ _ (21, [(0, .ref m0), (1, .ref (g.2.1 lk)), (2, .int (nI k))], [], M17) _
        have hU_23 := hU1.snoc hS20 rfl (ltx_ch7 lk hlk k)
        refine ps_st (S' := (24, [(2, .int ((nI k) + 1)), (0, .ref m0), (1, .ref (g.2.1 lk))], [], M17)) rfl rfl rfl ?_
        rw [nI_add1 (p := k) (k := 1) (x := 1) rfl (by omega)]
        show pl _ _ _ (_, [(2, .int (nI (k + 1))), (0, .ref m0), (1, .ref (g.2.1 lk))], [], M17) _
        refine ps_st (S' := (2, [(0, .ref m0), (1, .ref (g.2.1 lk)), (2, .int (nI (k + 1)))], [], M17)) rfl rfl rfl ?_
        exact ih (k + 1) M17 I1 R18 hR19 hEI1 hER22 hY_21 hU_23 (by omega)
  refine ps_st (S' := (1, [(0, .ref m0), (1, .ref (g.2.1 lk))], [.int 0], M)) rfl rfl rfl ?_
  refine ps_st (S' := (2, [(0, .ref m0), (1, .ref (g.2.1 lk)), (2, .int 0)], [], M)) rfl rfl rfl ?_
  exact (LL kf) (0) M I R hR hEI hER hY CUW.nil (by omega)
