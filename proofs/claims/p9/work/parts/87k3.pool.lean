/-! the reference clears its table, reads texts and the pool (laid by wip/p4/e3.py) -/
/-! the reference reads texts and the pool (my own text) -/
section PRA
theorem cont_eq {f : Nat → Int32} {q : Nat} : f q &&& 192 = nI (aN (by1 f q) 192) := by
  rw [← nI_an (p := by1 f q) (k := 192) (x := 192) rfl, ← by1_eq, Int32.and_assoc]
  rfl
theorem cont_iff {f : Nat → Int32} {q : Nat} : f q &&& 192 = 128 ↔ aN (by1 f q) 192 = 128 := by
  rw [cont_eq]
  have h := an_le (by1 f q) 192
  exact eq_nI (p := aN (by1 f q) 192) (n := 128) (by omega) (by decide)
theorem u8k_0 {f : Nat → Int32} {e p : Nat} (h : by1 f p = 0 ∨ 240 ≤ by1 f p ∨ (128 ≤ by1 f p ∧ by1 f p ≤ 191)) : u8k f e p = 0 := by
  unfold u8k
  by_cases h1 : by1 f p < 128
  · rw [if_pos h1, if_pos (by omega)]
  · rw [if_neg h1]
    by_cases h2 : by1 f p < 192
    · rw [if_pos h2]
    · rw [if_neg h2, if_pos (by omega)]
/-- b: bytes that follow the first -/
def moN (x : Nat) : Nat := if x < 128 then 0 else if x < 224 then 1 else 2
theorem u8k_bad {f : Nat → Int32} {e p i : Nat} (h : ¬ (by1 f p = 0 ∨ 240 ≤ by1 f p ∨ (128 ≤ by1 f p ∧ by1 f p ≤ 191))) (hi : 1 ≤ i ∧ i ≤ moN (by1 f p)) (hok : ∀ j, 1 ≤ j → j < i → p + j < e ∧ aN (by1 f (p + j)) 192 = 128) (hb : ¬ (p + i < e ∧ aN (by1 f (p + i)) 192 = 128)) : u8k f e p = 0 := by
  unfold moN at hi
  unfold u8k
  have h1 : ¬ by1 f p < 128 := by
    intro h9
    rw [if_pos h9] at hi
    omega
  rw [if_neg h1] at hi
  rw [if_neg h1, if_neg (by omega), if_neg (by omega)]
  by_cases e1 : i = 1
  · subst e1
    rw [if_pos (by rw [cont_iff]; exact hb)]
  · have h2 := hok 1 (by omega) (by omega)
    rw [if_neg (by rw [cont_iff]; exact fun h9 => h9 h2)]
    by_cases h3 : by1 f p < 224
    · rw [if_pos h3] at hi
      omega
    · rw [if_neg h3] at hi
      have e2 : i = 2 := by omega
      subst e2
      rw [if_neg h3, if_neg (by rw [cont_iff]; exact hb)]
theorem u8k_ok {f : Nat → Int32} {e p : Nat} (h : ¬ (by1 f p = 0 ∨ 240 ≤ by1 f p ∨ (128 ≤ by1 f p ∧ by1 f p ≤ 191))) (hok : ∀ j, 1 ≤ j → j ≤ moN (by1 f p) → p + j < e ∧ aN (by1 f (p + j)) 192 = 128) : u8k f e p = moN (by1 f p) + 1 := by
  unfold moN at hok ⊢
  unfold u8k
  by_cases h1 : by1 f p < 128
  · rw [if_pos h1, if_neg (by omega), if_pos h1]
  · rw [if_neg h1] at hok ⊢
    rw [if_neg h1, if_neg (by omega), if_neg (by omega)]
    have h2 := hok 1 (by omega) (by split <;> omega)
    rw [if_neg (by rw [cont_iff]; exact fun h9 => h9 h2)]
    by_cases h3 : by1 f p < 224
    · rw [if_pos h3, if_pos h3]
    · rw [if_neg h3] at hok
      rw [if_neg h3, if_neg h3, if_pos (by rw [cont_iff]; exact hok 2 (by decide) (by decide))]
theorem CUW.snocL {I : rI} {R R' : rR} {l : List Nat} {x : Nat} (h : CUW l l.length I R) (hR : R' = rset R 2 l.length (vp_nar .char (nI x))) (hc : x < 65536) : CUW (l ++ [x]) (l.length + 1) I R' := fun i hi => by
  subst hR
  by_cases e : i = l.length
  · subst e
    rw [rset_at, nar_char hc, getD_at]
    exact ⟨rfl, hc⟩
  · rw [rset_el e, getD_lo (by omega)]
    exact h i (by omega)
end PRA
section PRB
variable {f : Nat → Int32} {n mj N k p : Nat}
theorem ent_0 (h : n < p + 1) : s_entry f n mj N k p = .inl (1, p) := by
  unfold s_entry
  rw [if_pos h]
theorem ent_5 (h : ¬ n < p + 1) (ht : ¬ tgOk mj (by1 f p)) : s_entry f n mj N k p = .inl (5, p) := by
  unfold s_entry
  rw [if_neg h, if_pos ht]
theorem ent_7 (h : ¬ n < p + 1) (ht : tgOk mj (by1 f p)) (hw : (by1 f p = 5 ∨ by1 f p = 6) ∧ N ≤ k + 1) : s_entry f n mj N k p = .inl (7, p) := by
  unfold s_entry
  rw [if_neg h, if_neg (fun h9 => h9 ht), if_pos hw]
theorem ent_1 (h : ¬ n < p + 1) (ht : tgOk mj (by1 f p)) (h1 : by1 f p = 1) : s_entry f n mj N k p = match s_utf f n (p + 1) with
    | .inl e => .inl e
    | .inr l => .inr (p + 3 + by2 f (p + 1), .inl l) := by
  unfold s_entry
  rw [if_neg h, if_neg (fun h9 => h9 ht), if_neg (by omega), if_pos h1]
  rfl
theorem ent_4 (h : ¬ n < p + 1) (ht : tgOk mj (by1 f p)) (h1 : by1 f p = 3 ∨ by1 f p = 4) : s_entry f n mj N k p = if n < p + 5 then .inl (1, p + 1) else .inr (p + 5, .inr none) := by
  unfold s_entry
  rw [if_neg h, if_neg (fun h9 => h9 ht), if_neg (by omega), if_neg (by omega), if_pos h1]
theorem ent_8 (h : ¬ n < p + 1) (ht : tgOk mj (by1 f p)) (h1 : by1 f p = 5 ∨ by1 f p = 6) (hw : ¬ N ≤ k + 1) : s_entry f n mj N k p = if n < p + 5 then .inl (1, p + 1) else if n < p + 9 then .inl (1, p + 5) else .inr (p + 9, .inr none) := by
  unfold s_entry
  rw [if_neg h, if_neg (fun h9 => h9 ht), if_neg (by omega), if_neg (by omega), if_neg (by omega), if_pos h1]
theorem ent_x (h : ¬ n < p + 1) (ht : tgOk mj (by1 f p)) (h1 : ¬ (by1 f p = 1 ∨ by1 f p = 3 ∨ by1 f p = 4 ∨ by1 f p = 5 ∨ by1 f p = 6)) : s_entry f n mj N k p = match s_ix f n (by1 f p) (p + 1) with
    | .inl e => .inl e
    | .inr (p', x, y) => .inr (p', .inr (some (x, y))) := by
  unfold s_entry
  rw [if_neg h, if_neg (fun h9 => h9 ht), if_neg (by omega), if_neg (by omega), if_neg (by omega), if_neg (by omega)]
  rfl
theorem ix_15 {t : Nat} (ht : t = 15) : s_ix f n t p = if n < p + 1 then .inl (1, p) else if n < p + 3 then .inl (1, p + 1) else .inr (p + 3, by1 f p, by2 f (p + 1)) := by
  unfold s_ix
  rw [if_pos ht]
theorem ix_1 {t : Nat} (ht : t = 7 ∨ t = 8 ∨ t = 16 ∨ t = 19 ∨ t = 20) : s_ix f n t p = if n < p + 2 then .inl (1, p) else .inr (p + 2, by2 f p, 0) := by
  unfold s_ix
  rw [if_neg (by omega), if_pos ht]
theorem ix_2 {t : Nat} (ht : ¬ (t = 15 ∨ t = 7 ∨ t = 8 ∨ t = 16 ∨ t = 19 ∨ t = 20)) : s_ix f n t p = if n < p + 2 then .inl (1, p) else if n < p + 4 then .inl (1, p + 2) else .inr (p + 4, by2 f p, by2 f (p + 2)) := by
  unfold s_ix
  rw [if_neg (by omega), if_neg (show ¬ (t = 7 ∨ t = 8 ∨ t = 16 ∨ t = 19 ∨ t = 20) by omega)]
end PRB
section PRC
variable {f : Nat → Int32} {n : Nat} {E : List (Nat × Nat)} {tx : List (List Nat)} {I I' : rI} {R R' : rR}
theorem lk_ap {k p : Nat} (hE : ∀ q ∈ E, 1 ≤ q.1 ∧ q.1 < k) (j : Nat) : lk (E ++ [(k, p)]) j = if j = k then some p else lk E j := by
  induction E with
  | nil =>
    show (if k = j then some p else none) = _
    by_cases h : j = k
    · rw [if_pos h, if_pos h.symm]
    · rw [if_neg h, if_neg (Ne.symm h)]
      rfl
  | cons a r ih =>
    have h1 := hE a List.mem_cons_self
    have h2 := ih (fun q hq => hE q (List.mem_cons_of_mem _ hq))
    show (if a.1 = j then some a.2 else lk (r ++ [(k, p)]) j) = if j = k then some p else (if a.1 = j then some a.2 else lk r j)
    rw [h2]
    by_cases h : j = k
    · rw [if_pos h, if_neg (by omega), if_pos h]
    · rw [if_neg h, if_neg h]
theorem lk_hi {k j : Nat} (hE : ∀ q ∈ E, 1 ≤ q.1 ∧ q.1 < k) (hj : j = 0 ∨ k ≤ j) : lk E j = none := by
  cases h : lk E j with
  | none => rfl
  | some p =>
    have := hE _ (lk_in h)
    omega
def plI (o : Option Nat) : Int32 := match o with
  | none => -1
  | some p => nI p
/-- a text's number -/
def smC (f : Nat → Int32) (n : Nat) (tx : List (List Nat)) (R : rR) (j p : Nat) : Prop := by1 f p = 1 → ∃ s, R 22 j = some (nI s) ∧ s < tx.length ∧ tx.getD s [] = txo (s_utf f n (p + 1))
/-- the entries ahead of number k, as the reference keeps them -/
def RPV (f : Nat → Int32) (n : Nat) (E : List (Nat × Nat)) (tx : List (List Nat)) (k : Nat) (I : rI) (R : rR) : Prop :=
  (∀ q ∈ E, 1 ≤ q.1 ∧ q.1 < k) ∧ (∀ j, j < k → R 21 j = some (plI (lk E j))) ∧ ∀ j p, lk E j = some p → smC f n tx R j p
theorem RPV.mono {k : Nat} (h : RPV f n E tx k I R) (hI : ∀ k, k ∈ ([] : List Nat) → I' k = I k) (hR : ∀ k, k ∈ [21, 22] → R' k = R k) : RPV f n E tx k I' R' := by
  refine ⟨h.1, fun j hj => ?_, fun j p hp h1 => ?_⟩
  · rw [hR 21 (by decide)]
    exact h.2.1 j hj
  · rw [hR 22 (by decide)]
    exact h.2.2 j p hp h1
theorem RPV.txs {k : Nat} {tx2 : List (List Nat)} (h : RPV f n E tx k I R) (hk : tx.length ≤ tx2.length ∧ ∀ s, s < tx.length → tx2.getD s [] = tx.getD s []) : RPV f n E tx2 k I R :=
  ⟨h.1, h.2.1, fun j p hp h1 => by
    obtain ⟨s, a, b, c⟩ := h.2.2 j p hp h1
    exact ⟨s, a, by omega, by rw [hk.2 s b]; exact c⟩⟩
theorem RPV.w21 {k j : Nat} {x : Int32} (h : RPV f n E tx k I R) (hR : R' = rset R 21 j x) (hj : k ≤ j) : RPV f n E tx k I R' := by
  subst hR
  refine ⟨h.1, fun i hi => ?_, fun i p hp h1 => ?_⟩
  · rw [rset_el (by omega)]
    exact h.2.1 i hi
  · rw [rset_ne (by decide)]
    exact h.2.2 i p hp h1
theorem RPV.w22 {k j : Nat} {x : Int32} (h : RPV f n E tx k I R) (hR : R' = rset R 22 j x) (hj : k ≤ j) : RPV f n E tx k I R' := by
  subst hR
  refine ⟨h.1, fun i hi => ?_, fun i p hp h1 => ?_⟩
  · rw [rset_ne (by decide)]
    exact h.2.1 i hi
  · have := h.1 _ (lk_in hp)
    rw [rset_el (by show ¬ i = j; have : i < k := this.2; omega)]
    exact h.2.2 i p hp h1
/-- an entry that is being read -/
def RPE (f : Nat → Int32) (n : Nat) (E : List (Nat × Nat)) (tx : List (List Nat)) (k p : Nat) (I : rI) (R : rR) : Prop := RPV f n E tx k I R ∧ R 21 k = some (nI p) ∧ smC f n tx R k p
def RPD (f : Nat → Int32) (n : Nat) (E : List (Nat × Nat)) (tx : List (List Nat)) (k p : Nat) (I : rI) (R : rR) : Prop := RPV f n E tx k I R ∧ R 21 k = some (nI p)
theorem RPD.mono {k p : Nat} (h : RPD f n E tx k p I R) (hI : ∀ k, k ∈ ([] : List Nat) → I' k = I k) (hR : ∀ k, k ∈ [21, 22] → R' k = R k) : RPD f n E tx k p I' R' :=
  ⟨h.1.mono hI hR, by rw [hR 21 (by decide)]; exact h.2⟩
theorem RPE.mono {k p : Nat} (h : RPE f n E tx k p I R) (hI : ∀ k, k ∈ ([] : List Nat) → I' k = I k) (hR : ∀ k, k ∈ [21, 22] → R' k = R k) : RPE f n E tx k p I' R' :=
  ⟨h.1.mono hI hR, by rw [hR 21 (by decide)]; exact h.2.1, fun h1 => by rw [hR 22 (by decide)]; exact h.2.2 h1⟩
theorem RPV.ent {k p : Nat} (h : RPV f n E tx k I R) (hR : R' = rset R 21 k (nI p)) : RPD f n E tx k p I R' := ⟨h.w21 hR (Nat.le_refl _), by rw [hR, rset_at]⟩
theorem RPD.w22 {k p : Nat} {x : Int32} (h : RPD f n E tx k p I R) (hR : R' = rset R 22 k x) : RPD f n E tx k p I R' := ⟨h.1.w22 hR (Nat.le_refl _), by rw [hR, rset_ne (by decide)]; exact h.2⟩
theorem RPD.no {k p : Nat} (h : RPD f n E tx k p I R) (hp : ¬ by1 f p = 1) : RPE f n E tx k p I R := ⟨h.1, h.2, fun h1 => absurd h1 hp⟩
theorem RPD.sy {k p x : Nat} {tx2 : List (List Nat)} {l : List Nat} (h : RPD f n E tx k p I R) (hk : tx.length ≤ tx2.length ∧ ∀ s, s < tx.length → tx2.getD s [] = tx.getD s []) (h21 : R' 21 = R 21) (h22 : ∀ i, ¬ i = k → R' 22 i = R 22 i) (hx : R' 22 k = some (nI x)) (hl : x < tx2.length ∧ tx2.getD x [] = l) (hu : s_utf f n (p + 1) = .inr l) : RPE f n E tx2 k p I' R' := by
  obtain ⟨h1, h2⟩ := h
  have h3 := h1.txs hk
  refine ⟨⟨h3.1, fun j hj => by rw [h21]; exact h3.2.1 j hj, fun j p' hp' hb => ?_⟩, by rw [h21]; exact h2, fun _ => ⟨x, hx, hl.1, ?_⟩⟩
  · have := h3.1 _ (lk_in hp')
    rw [h22 j (by show ¬ j = k; have : j < k := this.2; omega)]
    exact h3.2.2 j p' hp' hb
  · rw [hl.2, hu]
    rfl
theorem RPE.next {k p : Nat} (h : RPE f n E tx k p I R) (hk : 1 ≤ k) : RPV f n (E ++ [(k, p)]) tx (k + 1) I R := by
  obtain ⟨⟨h1, h2, h3⟩, h4, h5⟩ := h
  refine ⟨fun q hq => ?_, fun j hj => ?_, fun j p' hp' => ?_⟩
  · rcases List.mem_append.mp hq with hq | hq
    · have := h1 q hq
      omega
    · have e : q = (k, p) := by simpa using hq
      rw [e]
      show 1 ≤ k ∧ k < k + 1
      omega
  · rw [lk_ap h1]
    by_cases e : j = k
    · rw [if_pos e, e]
      exact h4
    · rw [if_neg e]
      exact h2 j (by omega)
  · rw [lk_ap h1] at hp'
    by_cases e : j = k
    · rw [if_pos e] at hp'
      cases hp'
      rw [e]
      exact h5
    · rw [if_neg e] at hp'
      exact h3 j p' hp'
theorem RPV.skip {k : Nat} (h : RPV f n E tx k I R) (hR : R' = rset R 21 k (-1)) (hk : 1 ≤ k) : RPV f n E tx (k + 1) I R' := by
  have h9 := h.w21 hR (Nat.le_refl _)
  refine ⟨fun q hq => by have := h.1 q hq; omega, fun j hj => ?_, h9.2.2⟩
  by_cases e : j = k
  · subst e
    rw [hR, rset_at, lk_hi h.1 (Or.inr (Nat.le_refl _))]
    rfl
  · exact h9.2.1 j (by omega)
theorem RPV.one (h : R 21 0 = some (-1)) : RPV f n [] tx 1 I R := by
  refine ⟨fun q hq => ?_, fun j hj => ?_, fun j p hp => ?_⟩
  · cases hq
  · have e : j = 0 := by omega
    subst e
    exact h
  · cases hp
end PRC
theorem SYT.nil {I : rI} {R : rR} (h8 : I 8 = some 0) (h3 : I 3 = some 0) (h : ∀ h, h < 4096 → R 7 h = some (-1)) : SYT [] 0 (fun _ => 0) I R := by
  refine ⟨⟨h8, h3, by decide, by decide⟩, fun s hs => ?_, fun s hs => ?_, h, fun s t hs => ?_⟩
  · cases hs
  · cases hs
  · cases hs
def K22 (F : Nat → Option Int32) (I : rI) (R : rR) : Prop := R 22 = F
theorem K22.mono {F : Nat → Option Int32} {I I' : rI} {R R' : rR} (h : K22 F I R) (hI : ∀ k, k ∈ ([] : List Nat) → I' k = I k) (hR : ∀ k, k ∈ [22] → R' k = R k) : K22 F I' R' := (hR 22 (by decide)).trans h
def FIL (k : Nat) (I : rI) (R : rR) : Prop := ∀ h, h < k → R 7 h = some (-1)
theorem FIL.mono {k : Nat} {I I' : rI} {R R' : rR} (h : FIL k I R) (hI : ∀ k, k ∈ ([] : List Nat) → I' k = I k) (hR : ∀ k, k ∈ [7] → R' k = R k) : FIL k I' R' := fun i hi => by
  rw [hR 7 (by decide)]
  exact h i hi
theorem FIL.nil {I : rI} {R : rR} : FIL 0 I R := fun i hi => by omega
theorem FIL.snoc {k : Nat} {I : rI} {R R' : rR} (h : FIL k I R) (hR : R' = rset R 7 k (-1)) : FIL (k + 1) I R' := fun i hi => by
  subst hR
  by_cases e : i = k
  · subst e
    rw [rset_at]
  · rw [rset_el e]
    exact h i (by omega)

theorem moN_le (x : Nat) : moN x ≤ 2 := by unfold moN; repeat' split
                                           all_goals omega
set_option maxHeartbeats 1000000 in
theorem rd_clear {g : xe_G} {m0 : Nat} {q : Nat → Nat} {z : Nat × Nat} {I : rI} {R : rR} {M : mi_H}  (hR : RS g m0 q z I R M)    : pt (mT g) 195 [.ref m0] M (fun v M' => (∃ (tx : List (List Nat)) (cN : Nat) (A : Nat → Nat) (s1 s2 s3 : Nat) (I' : rI) (R' : rR), (s1 < tx.length ∧ tx.getD s1 [] = ltx 25 ∧ s2 < tx.length ∧ tx.getD s2 [] = ltx 26 ∧ s3 < tx.length ∧ tx.getD s3 [] = ltx 27) ∧ v = none ∧ RS g m0 q z I' R' M' ∧ eqI [3, 8, 9, 10, 11, 20, 25, 26] I I' ∧ eqR [1, 2, 4, 5, 6, 7] R R' ∧ I' 9 = some (nI s1) ∧ I' 10 = some (nI s2) ∧ I' 11 = some (nI s3) ∧ I' 20 = some 0 ∧ I' 25 = some 0 ∧ I' 26 = some 0 ∧ SYT tx cN A I' R')) := by
  refine pt_in (b := mb_195 g) rfl (fun kf => ?_)
  show pl (mT g) kf (mb_195 g).2 (0, [(0, .ref m0)], [], M) _
  have hEI : eqI [3, 8, 9, 10, 11, 20, 25, 26] I I := eqI.rf
  have hER : eqR [1, 2, 4, 5, 6, 7] R R := eqR.rf
  have LL : ∀ (kf : Nat), (∀ (k : Nat) (M1 : mi_H) (I1 : rI) (R1 : rR), (RS g m0 q z I1 R1 M1) → (eqI [3, 8, 9, 10, 11, 20, 25, 26] I I1) → (eqR [1, 2, 4, 5, 6, 7] R R1) → (I1 3 = some 0) → (I1 8 = some 0) → (FIL k I1 R1) → (k ≤ 4096) →  pl (mT g) kf (mb_195 g).2 (12, [(0, .ref m0), (1, .int (nI k))], [], M1) (fun v M' => (∃ (tx : List (List Nat)) (cN : Nat) (A : Nat → Nat) (s1 s2 s3 : Nat) (I' : rI) (R' : rR), (s1 < tx.length ∧ tx.getD s1 [] = ltx 25 ∧ s2 < tx.length ∧ tx.getD s2 [] = ltx 26 ∧ s3 < tx.length ∧ tx.getD s3 [] = ltx 27) ∧ v = none ∧ RS g m0 q z I' R' M' ∧ eqI [3, 8, 9, 10, 11, 20, 25, 26] I I' ∧ eqR [1, 2, 4, 5, 6, 7] R R' ∧ I' 9 = some (nI s1) ∧ I' 10 = some (nI s2) ∧ I' 11 = some (nI s3) ∧ I' 20 = some 0 ∧ I' 25 = some 0 ∧ I' 26 = some 0 ∧ SYT tx cN A I' R'))) := by
    intro kf
    induction kf with
    | zero => exact (by intros; exact pl_0)
    | succ kf ih =>
      intro k M1 I1 R1 hR1 hEI1 hER1 hl3 hl8 hL1 hk
      refine ps_st1 (S' := (13, [(0, .ref m0), (1, .int (nI k))], [.int (nI k)], M1)) rfl rfl rfl ?_
      refine ps_st (S' := (16, [(0, .ref m0), (1, .int (nI k))], [.int 4096, .int (nI k)], M1)) rfl rfl rfl ?_
      refine ps_if2 (S1 := (32, [(0, .ref m0), (1, .int (nI k))], [], M1)) (S2 := (19, [(0, .ref m0), (1, .int (nI k))], [], M1)) rfl rfl rfl (fun c_16 => ?_) (fun c_16 => ?_)
      · have c_16 : 4096 ≤ (nI k) := of_decide_eq_true c_16
        have n_16 : 4096 ≤ k := (le_nI (p := 4096) (n := k) (by decide) (by omega)).mp c_16
        have ek : k = 4096 := by omega
        have hL9 := hL1
        rw [ek] at hL9
        have hY_1 := SYT.nil hl8 hl3 hL9
        refine ps_st (S' := (33, [(0, .ref m0), (1, .int (nI k))], [.ref m0], M1)) rfl rfl rfl ?_
        refine ps_st (S' := (34, [(0, .ref m0), (1, .int (nI k))], [.ref m0, .ref m0], M1)) rfl rfl rfl ?_
        refine ps_st (S' := (36, [(0, .ref m0), (1, .int (nI k))], [.ref (g.2.1 25), .ref m0, .ref m0], M1)) rfl rfl rfl ?_
        refine pl_call (a := [.ref m0, .ref (g.2.1 25)]) (rest := [.ref m0]) rfl rfl rfl (rd_symbolS (tx := []) (cN := 0) (A := (fun _ => 0)) (lk := 25) hR1 hY_1 (⟨by decide, by decide⟩)) (fun v2 M3 q4 => ?_)
        obtain ⟨tx25, cN26, A27, x8, I9, R10, q36_x, q36_k, rfl, hR11, hI12, hX13, hY_14⟩ := q4
        have hEI15 := hEI1.tr hI12 (by decide)
        have hER16 := hER1.tr hX13 (by decide)
        show pl _ _ _ (39, [(0, .ref m0), (1, .int (nI k))], [.int (nI x8), .ref m0], M3) _
        refine pr_put (j := 9) rfl hR11 rfl (fun M17 I18 hR19 hi20 hI21 => ?_)
        have hY_22 := hY_14.mono (pIx hI21 (by decide)) (fun _ _ => rfl)
        have hEI23 := hEI15.put hI21 (by decide)
        show pl _ _ _ (42, [(0, .ref m0), (1, .int (nI k))], [], M17) _
        refine ps_st (S' := (43, [(0, .ref m0), (1, .int (nI k))], [.ref m0], M17)) rfl rfl rfl ?_
        refine ps_st (S' := (44, [(0, .ref m0), (1, .int (nI k))], [.ref m0, .ref m0], M17)) rfl rfl rfl ?_
        refine ps_st (S' := (46, [(0, .ref m0), (1, .int (nI k))], [.ref (g.2.1 26), .ref m0, .ref m0], M17)) rfl rfl rfl ?_
        refine pl_call (a := [.ref m0, .ref (g.2.1 26)]) (rest := [.ref m0]) rfl rfl rfl (rd_symbolS (tx := tx25) (cN := cN26) (A := A27) (lk := 26) hR19 hY_22 (⟨by decide, by decide⟩)) (fun v24 M25 q26 => ?_)
        obtain ⟨tx227, cN228, A229, x30, I31, R32, q46_x, q46_k, rfl, hR33, hI34, hX35, hY_36⟩ := q26
        have hi37 := (hI34 9 (by decide)).trans hi20
        have hEI38 := hEI23.tr hI34 (by decide)
        have hER39 := hER16.tr hX35 (by decide)
        show pl _ _ _ (49, [(0, .ref m0), (1, .int (nI k))], [.int (nI x30), .ref m0], M25) _
        refine pr_put (j := 10) rfl hR33 rfl (fun M40 I41 hR42 hi43 hI44 => ?_)
        have hi45 := (hI44 9 (by decide)).trans hi37
        have hY_46 := hY_36.mono (pIx hI44 (by decide)) (fun _ _ => rfl)
        have hEI47 := hEI38.put hI44 (by decide)
        show pl _ _ _ (52, [(0, .ref m0), (1, .int (nI k))], [], M40) _
        refine ps_st (S' := (53, [(0, .ref m0), (1, .int (nI k))], [.ref m0], M40)) rfl rfl rfl ?_
        refine ps_st (S' := (54, [(0, .ref m0), (1, .int (nI k))], [.ref m0, .ref m0], M40)) rfl rfl rfl ?_
        refine ps_st (S' := (56, [(0, .ref m0), (1, .int (nI k))], [.ref (g.2.1 27), .ref m0, .ref m0], M40)) rfl rfl rfl ?_
        refine pl_call (a := [.ref m0, .ref (g.2.1 27)]) (rest := [.ref m0]) rfl rfl rfl (rd_symbolS (tx := tx227) (cN := cN228) (A := A229) (lk := 27) hR42 hY_46 (⟨by decide, by decide⟩)) (fun v48 M49 q50 => ?_)
        obtain ⟨tx251, cN252, A253, x54, I55, R56, q56_x, q56_k, rfl, hR57, hI58, hX59, hY_60⟩ := q50
        have hi61 := (hI58 9 (by decide)).trans hi45
        have hi62 := (hI58 10 (by decide)).trans hi43
        have hEI63 := hEI47.tr hI58 (by decide)
        have hER64 := hER39.tr hX59 (by decide)
        show pl _ _ _ (59, [(0, .ref m0), (1, .int (nI k))], [.int (nI x54), .ref m0], M49) _
        refine pr_put (j := 11) rfl hR57 rfl (fun M65 I66 hR67 hi68 hI69 => ?_)
        have hi70 := (hI69 9 (by decide)).trans hi61
        have hi71 := (hI69 10 (by decide)).trans hi62
        have hY_72 := hY_60.mono (pIx hI69 (by decide)) (fun _ _ => rfl)
        have hEI73 := hEI63.put hI69 (by decide)
        show pl _ _ _ (62, [(0, .ref m0), (1, .int (nI k))], [], M65) _
        refine ps_st (S' := (63, [(0, .ref m0), (1, .int (nI k))], [.ref m0], M65)) rfl rfl rfl ?_
        refine ps_st (S' := (64, [(0, .ref m0), (1, .int (nI k))], [.int 0, .ref m0], M65)) rfl rfl rfl ?_
        refine pr_put (j := 20) rfl hR67 rfl (fun M74 I75 hR76 hi77 hI78 => ?_)
        have hi79 := (hI78 9 (by decide)).trans hi70
        have hi80 := (hI78 10 (by decide)).trans hi71
        have hi81 := (hI78 11 (by decide)).trans hi68
        have hY_82 := hY_72.mono (pIx hI78 (by decide)) (fun _ _ => rfl)
        have hEI83 := hEI73.put hI78 (by decide)
        show pl _ _ _ (67, [(0, .ref m0), (1, .int (nI k))], [], M74) _
        refine ps_st (S' := (68, [(0, .ref m0), (1, .int (nI k))], [.ref m0], M74)) rfl rfl rfl ?_
        refine ps_st (S' := (69, [(0, .ref m0), (1, .int (nI k))], [.int 0, .ref m0], M74)) rfl rfl rfl ?_
        refine pr_put (j := 25) rfl hR76 rfl (fun M84 I85 hR86 hi87 hI88 => ?_)
        have hi89 := (hI88 9 (by decide)).trans hi79
        have hi90 := (hI88 10 (by decide)).trans hi80
        have hi91 := (hI88 11 (by decide)).trans hi81
        have hi92 := (hI88 20 (by decide)).trans hi77
        have hY_93 := hY_82.mono (pIx hI88 (by decide)) (fun _ _ => rfl)
        have hEI94 := hEI83.put hI88 (by decide)
        show pl _ _ _ (72, [(0, .ref m0), (1, .int (nI k))], [], M84) _
        refine ps_st (S' := (73, [(0, .ref m0), (1, .int (nI k))], [.ref m0], M84)) rfl rfl rfl ?_
        refine ps_st (S' := (74, [(0, .ref m0), (1, .int (nI k))], [.int 0, .ref m0], M84)) rfl rfl rfl ?_
        refine pr_put (j := 26) rfl hR86 rfl (fun M95 I96 hR97 hi98 hI99 => ?_)
        have hi100 := (hI99 9 (by decide)).trans hi89
        have hi101 := (hI99 10 (by decide)).trans hi90
        have hi102 := (hI99 11 (by decide)).trans hi91
        have hi103 := (hI99 20 (by decide)).trans hi92
        have hi104 := (hI99 25 (by decide)).trans hi87
        have hY_105 := hY_93.mono (pIx hI99 (by decide)) (fun _ _ => rfl)
        have hEI106 := hEI94.put hI99 (by decide)
        show pl _ _ _ (77, [(0, .ref m0), (1, .int (nI k))], [], M95) _
        have k2 := q46_k
        have k3 := q56_k
        exact ps_ret rfl rfl (⟨tx251, cN252, A253, x8, x30, x54, I96, R56, ⟨by have := q36_x.1; omega, by rw [k3.2 _ (by have := q36_x.1; omega), k2.2 _ q36_x.1]; exact q36_x.2, by have := q46_x.1; omega, by rw [k3.2 _ q46_x.1]; exact q46_x.2, q56_x.1, q56_x.2⟩, rfl, hR97, hEI106, hER64, hi100, hi101, hi102, hi103, hi104, hi98, hY_105⟩)
      · have c_16 : ¬ (4096 ≤ (nI k)) := of_decide_eq_false c_16
        have n_16 : ¬ (4096 ≤ k) := fun h9 => c_16 ((le_nI (p := 4096) (n := k) (by decide) (by omega)).mpr h9)
        refine ps_st (S' := (20, [(0, .ref m0), (1, .int (nI k))], [.ref m0], M1)) rfl rfl rfl ?_
        refine pr_ref (j := 7) (S' := (23, [(0, .ref m0), (1, .int (nI k))], [.ref (q 7)], M1)) rfl hR1 rfl rfl ?_
        refine ps_st (S' := (24, [(0, .ref m0), (1, .int (nI k))], [.int (nI k), .ref (q 7)], M1)) rfl rfl rfl ?_
        refine ps_st (S' := (25, [(0, .ref m0), (1, .int (nI k))], [.int (-1), .int (nI k), .ref (q 7)], M1)) rfl rfl rfl ?_
        refine pr_st (a := 7) (j := k) rfl hR1 rfl (by omega) (fun M107 R108 i1_25 hR109 hS110 => ?_)
        have hER111 := hER1.st hS110 (by decide)
        show pl _ _ _ (26, [(0, .ref m0), (1, .int (nI k))], [], M107) _
        have hL_112 := hL1.snoc hS110
        refine ps_st (S' := (29, [(1, .int ((nI k) + 1)), (0, .ref m0)], [], M107)) rfl rfl rfl ?_
        rw [nI_add1 (p := k) (k := 1) (x := 1) rfl (by omega)]
        show pl _ _ _ (_, [(1, .int (nI (k + 1))), (0, .ref m0)], [], M107) _
        refine ps_st (S' := (12, [(0, .ref m0), (1, .int (nI (k + 1)))], [], M107)) rfl rfl rfl ?_
        exact ih (k + 1) M107 I1 R108 hR109 hEI1 hER111 hl3 hl8 hL_112 (by omega)
  refine ps_st (S' := (1, [(0, .ref m0)], [.ref m0], M)) rfl rfl rfl ?_
  refine ps_st (S' := (2, [(0, .ref m0)], [.int 0, .ref m0], M)) rfl rfl rfl ?_
  refine pr_put (j := 3) rfl hR rfl (fun M113 I114 hR115 hi116 hI117 => ?_)
  have hEI118 := hEI.put hI117 (by decide)
  show pl _ _ _ (5, [(0, .ref m0)], [], M113) _
  refine ps_st (S' := (6, [(0, .ref m0)], [.ref m0], M113)) rfl rfl rfl ?_
  refine ps_st (S' := (7, [(0, .ref m0)], [.int 0, .ref m0], M113)) rfl rfl rfl ?_
  refine pr_put (j := 8) rfl hR115 rfl (fun M119 I120 hR121 hi122 hI123 => ?_)
  have hi124 := (hI123 3 (by decide)).trans hi116
  have hEI125 := hEI118.put hI123 (by decide)
  show pl _ _ _ (10, [(0, .ref m0)], [], M119) _
  refine ps_st (S' := (11, [(0, .ref m0)], [.int 0], M119)) rfl rfl rfl ?_
  refine ps_st (S' := (12, [(0, .ref m0), (1, .int 0)], [], M119)) rfl rfl rfl ?_
  exact (LL kf) (0) M119 I120 R hR121 hEI125 hER hi124 hi122 FIL.nil (by omega)
set_option maxHeartbeats 1000000 in
theorem rd_utf8 {g : xe_G} {m0 : Nat} {q : Nat → Nat} {z : Nat × Nat} {I : rI} {R : rR} {M : mi_H} {n : Nat} {f : Nat → Int32} {tx : List (List Nat)} {cN : Nat} {A : Nat → Nat} {j p m : Nat} (hR : RS g m0 q z I R M)  (hF : FK n f I R) (hY : SYT tx cN A I R) (hm : p + m ≤ n) (hj : j < 65540) : pt (mT g) 252 [.ref m0, .int (nI j), .int (nI p), .int (nI m)] M (fun v M' => (∃ (tx2 : List (List Nat)) (cN2 : Nat) (A2 : Nat → Nat) (l : List Nat) (x : Nat) (I' : rI) (R' : rR), (s_text f (p + m) m p [] = .inr l) ∧ (x < tx2.length ∧ tx2.getD x [] = l) ∧ (tx.length ≤ tx2.length ∧ ∀ s, s < tx.length → tx2.getD s [] = tx.getD s []) ∧ (R' 22 j = some (nI x) ∧ ∀ i, ¬ i = j → R' 22 i = R 22 i) ∧ v = some (.int 1) ∧ RS g m0 q z I' R' M' ∧ eqI [3, 8, 47, 48] I I' ∧ eqR [1, 2, 4, 5, 6, 7, 22] R R' ∧ SYT tx2 cN2 A2 I' R') ∨ (∃ (w : Nat) (I' : rI) (R' : rR), (s_text f (p + m) m p [] = .inl w) ∧ v = some (.int 0) ∧ RS g m0 q z I' R' M' ∧ eqI [3, 8, 47, 48] I I' ∧ eqR [1, 2, 4, 5, 6, 7, 22] R R' ∧ I' 47 = some 6 ∧ I' 48 = some (nI w))) := by
  refine pt_in (b := mb_252 g) rfl (fun kf => ?_)
  show pl (mT g) kf (mb_252 g).2 (0, [(0, .ref m0), (1, .int (nI j)), (2, .int (nI p)), (3, .int (nI m))], [], M) _
  have hEI : eqI [3, 8, 47, 48] I I := eqI.rf
  have hER : eqR [1, 2, 4, 5, 6, 7, 22] R R := eqR.rf
  have hn := hF.1
  obtain ⟨F22, hK⟩ : ∃ F22, K22 F22 I R := ⟨_, rfl⟩
  have LL : ∀ (kf : Nat), (∀ (p1 : Nat) (l : List Nat) (M1 : mi_H) (I1 : rI) (R1 : rR), (RS g m0 q z I1 R1 M1) → (eqI [3, 8, 47, 48] I I1) → (eqR [1, 2, 4, 5, 6, 7, 22] R R1) → (FK n f I1 R1) → (SYT tx cN A I1 R1) → (CUW l l.length I1 R1) → (K22 F22 I1 R1) → (p ≤ p1 ∧ p1 ≤ p + m ∧ l.length + (p + m - p1) ≤ m) → (s_text f (p + m) (p + m - p1) p1 l = s_text f (p + m) m p []) →  pl (mT g) kf (mb_252 g).2 (11, [(0, .ref m0), (1, .int (nI j)), (4, .int (nI l.length)), (5, .int (nI p1)), (6, .int (nI (p + m)))], [], M1) (fun v M' => (∃ (tx2 : List (List Nat)) (cN2 : Nat) (A2 : Nat → Nat) (l : List Nat) (x : Nat) (I' : rI) (R' : rR), (s_text f (p + m) m p [] = .inr l) ∧ (x < tx2.length ∧ tx2.getD x [] = l) ∧ (tx.length ≤ tx2.length ∧ ∀ s, s < tx.length → tx2.getD s [] = tx.getD s []) ∧ (R' 22 j = some (nI x) ∧ ∀ i, ¬ i = j → R' 22 i = R 22 i) ∧ v = some (.int 1) ∧ RS g m0 q z I' R' M' ∧ eqI [3, 8, 47, 48] I I' ∧ eqR [1, 2, 4, 5, 6, 7, 22] R R' ∧ SYT tx2 cN2 A2 I' R') ∨ (∃ (w : Nat) (I' : rI) (R' : rR), (s_text f (p + m) m p [] = .inl w) ∧ v = some (.int 0) ∧ RS g m0 q z I' R' M' ∧ eqI [3, 8, 47, 48] I I' ∧ eqR [1, 2, 4, 5, 6, 7, 22] R R' ∧ I' 47 = some 6 ∧ I' 48 = some (nI w)))) ∧ (∀ (p1 : Nat) (l : List Nat) (i : Nat) (M1 : mi_H) (I1 : rI) (R1 : rR), (RS g m0 q z I1 R1 M1) → (eqI [3, 8, 47, 48] I I1) → (eqR [1, 2, 4, 5, 6, 7, 22] R R1) → (FK n f I1 R1) → (SYT tx cN A I1 R1) → (CUW l l.length I1 R1) → (K22 F22 I1 R1) → (p ≤ p1 ∧ p1 ≤ p + m ∧ l.length + (p + m - p1) ≤ m) → (s_text f (p + m) (p + m - p1) p1 l = s_text f (p + m) m p []) → (p1 < p + m) → (¬ (by1 f p1 = 0 ∨ 240 ≤ by1 f p1 ∨ (128 ≤ by1 f p1 ∧ by1 f p1 ≤ 191))) → (1 ≤ i ∧ i ≤ moN (by1 f p1) + 1) → (∀ j, 1 ≤ j → j < i → p1 + j < p + m ∧ aN (by1 f (p1 + j)) 192 = 128) →  pl (mT g) kf (mb_252 g).2 (94, [(0, .ref m0), (1, .int (nI j)), (4, .int (nI l.length)), (5, .int (nI p1)), (6, .int (nI (p + m))), (7, .int (nI (by1 f p1))), (8, .int (nI (moN (by1 f p1)))), (9, .int (nI i))], [], M1) (fun v M' => (∃ (tx2 : List (List Nat)) (cN2 : Nat) (A2 : Nat → Nat) (l : List Nat) (x : Nat) (I' : rI) (R' : rR), (s_text f (p + m) m p [] = .inr l) ∧ (x < tx2.length ∧ tx2.getD x [] = l) ∧ (tx.length ≤ tx2.length ∧ ∀ s, s < tx.length → tx2.getD s [] = tx.getD s []) ∧ (R' 22 j = some (nI x) ∧ ∀ i, ¬ i = j → R' 22 i = R 22 i) ∧ v = some (.int 1) ∧ RS g m0 q z I' R' M' ∧ eqI [3, 8, 47, 48] I I' ∧ eqR [1, 2, 4, 5, 6, 7, 22] R R' ∧ SYT tx2 cN2 A2 I' R') ∨ (∃ (w : Nat) (I' : rI) (R' : rR), (s_text f (p + m) m p [] = .inl w) ∧ v = some (.int 0) ∧ RS g m0 q z I' R' M' ∧ eqI [3, 8, 47, 48] I I' ∧ eqR [1, 2, 4, 5, 6, 7, 22] R R' ∧ I' 47 = some 6 ∧ I' 48 = some (nI w)))) := by
    intro kf
    induction kf with
    | zero => exact ⟨by intros; exact pl_0, by intros; exact pl_0⟩
    | succ kf ih =>
      refine ⟨?_, ?_⟩
      · skip
        intro p1 l M1 I1 R1 hR1 hEI1 hER1 hF1 hY1 hU1 hK1 hp1 hs
        have hn := hF1.1
        refine ps_st1 (S' := (13, [(0, .ref m0), (1, .int (nI j)), (4, .int (nI l.length)), (5, .int (nI p1)), (6, .int (nI (p + m)))], [.int (nI p1)], M1)) rfl rfl rfl ?_
        refine ps_st (S' := (15, [(0, .ref m0), (1, .int (nI j)), (4, .int (nI l.length)), (5, .int (nI p1)), (6, .int (nI (p + m)))], [.int (nI (p + m)), .int (nI p1)], M1)) rfl rfl rfl ?_
        refine ps_if2 (S1 := (242, [(0, .ref m0), (1, .int (nI j)), (4, .int (nI l.length)), (5, .int (nI p1)), (6, .int (nI (p + m)))], [], M1)) (S2 := (18, [(0, .ref m0), (1, .int (nI j)), (4, .int (nI l.length)), (5, .int (nI p1)), (6, .int (nI (p + m)))], [], M1)) rfl rfl rfl (fun c_15 => ?_) (fun c_15 => ?_)
        · have c_15 : (nI (p + m)) ≤ (nI p1) := of_decide_eq_true c_15
          have n_15 : p + m ≤ p1 := (le_nI (p := p + m) (n := p1) (by omega) (by omega)).mp c_15
          refine ps_st (S' := (243, [(0, .ref m0), (1, .int (nI j)), (4, .int (nI l.length)), (5, .int (nI p1)), (6, .int (nI (p + m)))], [.ref m0], M1)) rfl rfl rfl ?_
          refine pr_ref (j := 22) (S' := (246, [(0, .ref m0), (1, .int (nI j)), (4, .int (nI l.length)), (5, .int (nI p1)), (6, .int (nI (p + m)))], [.ref (q 22)], M1)) rfl hR1 rfl rfl ?_
          refine ps_st (S' := (247, [(0, .ref m0), (1, .int (nI j)), (4, .int (nI l.length)), (5, .int (nI p1)), (6, .int (nI (p + m)))], [.int (nI j), .ref (q 22)], M1)) rfl rfl rfl ?_
          refine ps_st (S' := (248, [(0, .ref m0), (1, .int (nI j)), (4, .int (nI l.length)), (5, .int (nI p1)), (6, .int (nI (p + m)))], [.ref m0, .int (nI j), .ref (q 22)], M1)) rfl rfl rfl ?_
          refine ps_st (S' := (250, [(0, .ref m0), (1, .int (nI j)), (4, .int (nI l.length)), (5, .int (nI p1)), (6, .int (nI (p + m)))], [.int (nI l.length), .ref m0, .int (nI j), .ref (q 22)], M1)) rfl rfl rfl ?_
          refine pl_call (a := [.ref m0, .int (nI l.length)]) (rest := [.int (nI j), .ref (q 22)]) rfl rfl rfl (rd_symbol (tx := tx) (cN := cN) (A := A) (l := l) hR1 hY1 hU1 (by omega)) (fun v1 M2 q3 => ?_)
          obtain ⟨tx24, cN25, A26, x7, I8, R9, q250_x, q250_k, rfl, hR10, hI11, hX12, hY_13⟩ := q3
          have hF_14 := hF1.mono (cIx hI11 (by decide)) (cRx hX12 (by decide))
          have hU_15 := hU1.mono (cIx hI11 (by decide)) (cRx hX12 (by decide))
          have hK_16 := hK1.mono (cIx hI11 (by decide)) (cRx hX12 (by decide))
          have hEI17 := hEI1.tr hI11 (by decide)
          have hER18 := hER1.tr hX12 (by decide)
          show pl _ _ _ (253, [(0, .ref m0), (1, .int (nI j)), (4, .int (nI l.length)), (5, .int (nI p1)), (6, .int (nI (p + m)))], [.int (nI x7), .int (nI j), .ref (q 22)], M2) _
          refine pr_st (a := 22) (j := j) rfl hR10 rfl (by omega) (fun M19 R20 i1_253 hR21 hS22 => ?_)
          have hF_23 := hF_14.mono (fun _ _ => rfl) (rRx hS22 (by decide))
          have hU_24 := hU_15.mono (fun _ _ => rfl) (rRx hS22 (by decide))
          have hY_25 := hY_13.mono (fun _ _ => rfl) (rRx hS22 (by decide))
          have hER26 := hER18.st hS22 (by decide)
          show pl _ _ _ (254, [(0, .ref m0), (1, .int (nI j)), (4, .int (nI l.length)), (5, .int (nI p1)), (6, .int (nI (p + m)))], [], M19) _
          refine ps_st (S' := (255, [(0, .ref m0), (1, .int (nI j)), (4, .int (nI l.length)), (5, .int (nI p1)), (6, .int (nI (p + m)))], [.int 1], M19)) rfl rfl rfl ?_
          exact ps_ret rfl rfl (Or.inl ⟨tx24, cN25, A26, l, x7, I8, R20, by
              rw [← hs, s_text_0 (by omega)], q250_x, q250_k, ⟨by rw [hS22, rset_at], fun i hi => by rw [hS22, rset_el hi, show _ = F22 from hK_16, show R 22 = F22 from hK]⟩, rfl, hR21, hEI17, hER26, hY_25⟩)
        · have c_15 : ¬ ((nI (p + m)) ≤ (nI p1)) := of_decide_eq_false c_15
          have n_15 : ¬ (p + m ≤ p1) := fun h9 => c_15 ((le_nI (p := p + m) (n := p1) (by omega) (by omega)).mpr h9)
          refine ps_st (S' := (19, [(0, .ref m0), (1, .int (nI j)), (4, .int (nI l.length)), (5, .int (nI p1)), (6, .int (nI (p + m)))], [.ref m0], M1)) rfl rfl rfl ?_
          refine ps_st (S' := (21, [(0, .ref m0), (1, .int (nI j)), (4, .int (nI l.length)), (5, .int (nI p1)), (6, .int (nI (p + m)))], [.int (nI p1), .ref m0], M1)) rfl rfl rfl ?_
          refine pl_call (a := [.ref m0, .int (nI p1)]) (rest := []) rfl rfl rfl (rd_u1 (n := n) (f := f) (p := p1) hR1 hF1 (by omega)) (fun v27 M28 q29 => ?_)
          obtain ⟨rfl, rfl⟩ := q29
          show pl _ _ _ (24, [(0, .ref m0), (1, .int (nI j)), (4, .int (nI l.length)), (5, .int (nI p1)), (6, .int (nI (p + m)))], [.int (nI (by1 f p1))], M1) _
          have hu_21 := by1_lt f p1
          refine ps_st (S' := (26, [(7, .int (nI (by1 f p1))), (0, .ref m0), (1, .int (nI j)), (4, .int (nI l.length)), (5, .int (nI p1)), (6, .int (nI (p + m)))], [], M1)) rfl rfl rfl ?_
          refine ps_st (S' := (28, [(7, .int (nI (by1 f p1))), (0, .ref m0), (1, .int (nI j)), (4, .int (nI l.length)), (5, .int (nI p1)), (6, .int (nI (p + m)))], [.int (nI (by1 f p1))], M1)) rfl rfl rfl ?_
          refine ps_if (S1 := (55, [(0, .ref m0), (5, .int (nI p1))], [], M1)) (S2 := (31, [(7, .int (nI (by1 f p1))), (0, .ref m0), (1, .int (nI j)), (4, .int (nI l.length)), (5, .int (nI p1)), (6, .int (nI (p + m)))], [], M1)) rfl rfl rfl (fun c_28 => ?_) (fun c_28 => ?_)
          · have c_28 : (nI (by1 f p1)) = 0 := of_decide_eq_true c_28
            have n_28 : by1 f p1 = 0 := (eq_nI (p := by1 f p1) (n := 0) (Nat.lt_trans (by1_lt _ _) (by decide)) (by decide)).mp c_28
            refine ps_st (S' := (56, [(0, .ref m0), (5, .int (nI p1))], [.ref m0], M1)) rfl rfl rfl ?_
            refine ps_st (S' := (58, [(0, .ref m0), (5, .int (nI p1))], [.int 6, .ref m0], M1)) rfl rfl rfl ?_
            refine ps_st (S' := (60, [(0, .ref m0), (5, .int (nI p1))], [.int (nI p1), .int 6, .ref m0], M1)) rfl rfl rfl ?_
            refine pl_call (a := [.ref m0, .int 6, .int (nI p1)]) (rest := []) rfl rfl rfl (rd_wrong (x1 := 6) (x2 := (nI p1)) hR1) (fun v30 M31 q32 => ?_)
            obtain ⟨I33, R34, rfl, hR35, hI36, hX37, hi38, hi39⟩ := q32
            have hF_40 := hF1.mono (cIx hI36 (by decide)) (cRx hX37 (by decide))
            have hY_41 := hY1.mono (cIx hI36 (by decide)) (cRx hX37 (by decide))
            have hU_42 := hU1.mono (cIx hI36 (by decide)) (cRx hX37 (by decide))
            have hK_43 := hK1.mono (cIx hI36 (by decide)) (cRx hX37 (by decide))
            have hEI44 := hEI1.tr hI36 (by decide)
            have hER45 := hER1.tr hX37 (by decide)
            show pl _ _ _ (63, [(0, .ref m0), (5, .int (nI p1))], [.int 0], M31) _
            exact ps_ret rfl rfl (Or.inr ⟨p1, I33, R34, by
                rw [← hs]
                exact s_text_bad (by omega) (u8k_0 (by omega)), rfl, hR35, hEI44, hER45, hi38, hi39⟩)
          · have c_28 : ¬ ((nI (by1 f p1)) = 0) := of_decide_eq_false c_28
            have n_28 : ¬ (by1 f p1 = 0) := fun h9 => c_28 ((eq_nI (p := by1 f p1) (n := 0) (Nat.lt_trans (by1_lt _ _) (by decide)) (by decide)).mpr h9)
            refine ps_st (S' := (33, [(7, .int (nI (by1 f p1))), (0, .ref m0), (1, .int (nI j)), (4, .int (nI l.length)), (5, .int (nI p1)), (6, .int (nI (p + m)))], [.int (nI (by1 f p1))], M1)) rfl rfl rfl ?_
            refine ps_st (S' := (36, [(7, .int (nI (by1 f p1))), (0, .ref m0), (1, .int (nI j)), (4, .int (nI l.length)), (5, .int (nI p1)), (6, .int (nI (p + m)))], [.int 240, .int (nI (by1 f p1))], M1)) rfl rfl rfl ?_
            refine ps_if2 (S1 := (55, [(0, .ref m0), (5, .int (nI p1))], [], M1)) (S2 := (39, [(7, .int (nI (by1 f p1))), (0, .ref m0), (1, .int (nI j)), (4, .int (nI l.length)), (5, .int (nI p1)), (6, .int (nI (p + m)))], [], M1)) rfl rfl rfl (fun c_36 => ?_) (fun c_36 => ?_)
            · have c_36 : 240 ≤ (nI (by1 f p1)) := of_decide_eq_true c_36
              have n_36 : 240 ≤ by1 f p1 := (le_nI (p := 240) (n := by1 f p1) (by decide) (Nat.lt_trans (by1_lt _ _) (by decide))).mp c_36
              refine ps_st (S' := (56, [(0, .ref m0), (5, .int (nI p1))], [.ref m0], M1)) rfl rfl rfl ?_
              refine ps_st (S' := (58, [(0, .ref m0), (5, .int (nI p1))], [.int 6, .ref m0], M1)) rfl rfl rfl ?_
              refine ps_st (S' := (60, [(0, .ref m0), (5, .int (nI p1))], [.int (nI p1), .int 6, .ref m0], M1)) rfl rfl rfl ?_
              refine pl_call (a := [.ref m0, .int 6, .int (nI p1)]) (rest := []) rfl rfl rfl (rd_wrong (x1 := 6) (x2 := (nI p1)) hR1) (fun v46 M47 q48 => ?_)
              obtain ⟨I49, R50, rfl, hR51, hI52, hX53, hi54, hi55⟩ := q48
              have hF_56 := hF1.mono (cIx hI52 (by decide)) (cRx hX53 (by decide))
              have hY_57 := hY1.mono (cIx hI52 (by decide)) (cRx hX53 (by decide))
              have hU_58 := hU1.mono (cIx hI52 (by decide)) (cRx hX53 (by decide))
              have hK_59 := hK1.mono (cIx hI52 (by decide)) (cRx hX53 (by decide))
              have hEI60 := hEI1.tr hI52 (by decide)
              have hER61 := hER1.tr hX53 (by decide)
              show pl _ _ _ (63, [(0, .ref m0), (5, .int (nI p1))], [.int 0], M47) _
              exact ps_ret rfl rfl (Or.inr ⟨p1, I49, R50, by
                  rw [← hs]
                  exact s_text_bad (by omega) (u8k_0 (by omega)), rfl, hR51, hEI60, hER61, hi54, hi55⟩)
            · have c_36 : ¬ (240 ≤ (nI (by1 f p1))) := of_decide_eq_false c_36
              have n_36 : ¬ (240 ≤ by1 f p1) := fun h9 => c_36 ((le_nI (p := 240) (n := by1 f p1) (by decide) (Nat.lt_trans (by1_lt _ _) (by decide))).mpr h9)
              refine ps_st (S' := (41, [(7, .int (nI (by1 f p1))), (0, .ref m0), (1, .int (nI j)), (4, .int (nI l.length)), (5, .int (nI p1)), (6, .int (nI (p + m)))], [.int (nI (by1 f p1))], M1)) rfl rfl rfl ?_
              refine ps_st (S' := (44, [(7, .int (nI (by1 f p1))), (0, .ref m0), (1, .int (nI j)), (4, .int (nI l.length)), (5, .int (nI p1)), (6, .int (nI (p + m)))], [.int 128, .int (nI (by1 f p1))], M1)) rfl rfl rfl ?_
              refine ps_if2 (S1 := (64, [(0, .ref m0), (1, .int (nI j)), (4, .int (nI l.length)), (5, .int (nI p1)), (6, .int (nI (p + m))), (7, .int (nI (by1 f p1)))], [], M1)) (S2 := (47, [(7, .int (nI (by1 f p1))), (0, .ref m0), (1, .int (nI j)), (4, .int (nI l.length)), (5, .int (nI p1)), (6, .int (nI (p + m)))], [], M1)) rfl rfl rfl (fun c_44 => ?_) (fun c_44 => ?_)
              · have c_44 : (nI (by1 f p1)) < 128 := of_decide_eq_true c_44
                have n_44 : by1 f p1 < 128 := (lt_nI (p := by1 f p1) (n := 128) (Nat.lt_trans (by1_lt _ _) (by decide)) (by decide)).mp c_44
                refine ps_st (S' := (66, [(0, .ref m0), (1, .int (nI j)), (4, .int (nI l.length)), (5, .int (nI p1)), (6, .int (nI (p + m))), (7, .int (nI (by1 f p1)))], [.int (nI (by1 f p1))], M1)) rfl rfl rfl ?_
                refine ps_st (S' := (69, [(0, .ref m0), (1, .int (nI j)), (4, .int (nI l.length)), (5, .int (nI p1)), (6, .int (nI (p + m))), (7, .int (nI (by1 f p1)))], [.int 128, .int (nI (by1 f p1))], M1)) rfl rfl rfl ?_
                refine ps_if2 (S1 := (76, [(0, .ref m0), (1, .int (nI j)), (4, .int (nI l.length)), (5, .int (nI p1)), (6, .int (nI (p + m))), (7, .int (nI (by1 f p1)))], [], M1)) (S2 := (72, [(0, .ref m0), (1, .int (nI j)), (4, .int (nI l.length)), (5, .int (nI p1)), (6, .int (nI (p + m))), (7, .int (nI (by1 f p1)))], [], M1)) rfl rfl rfl (fun c_69 => ?_) (fun c_69 => ?_)
                · have c_69 : 128 ≤ (nI (by1 f p1)) := of_decide_eq_true c_69
                  have n_69 : 128 ≤ by1 f p1 := (le_nI (p := 128) (n := by1 f p1) (by decide) (Nat.lt_trans (by1_lt _ _) (by decide))).mp c_69
                  refine ps_st (S' := (78, [(0, .ref m0), (1, .int (nI j)), (4, .int (nI l.length)), (5, .int (nI p1)), (6, .int (nI (p + m))), (7, .int (nI (by1 f p1)))], [.int (nI (by1 f p1))], M1)) rfl rfl rfl ?_
                  refine ps_st (S' := (81, [(0, .ref m0), (1, .int (nI j)), (4, .int (nI l.length)), (5, .int (nI p1)), (6, .int (nI (p + m))), (7, .int (nI (by1 f p1)))], [.int 224, .int (nI (by1 f p1))], M1)) rfl rfl rfl ?_
                  refine ps_if2 (S1 := (88, [(0, .ref m0), (1, .int (nI j)), (4, .int (nI l.length)), (5, .int (nI p1)), (6, .int (nI (p + m))), (7, .int (nI (by1 f p1)))], [], M1)) (S2 := (84, [(0, .ref m0), (1, .int (nI j)), (4, .int (nI l.length)), (5, .int (nI p1)), (6, .int (nI (p + m))), (7, .int (nI (by1 f p1)))], [], M1)) rfl rfl rfl (fun c_81 => ?_) (fun c_81 => ?_)
                  · have c_81 : 224 ≤ (nI (by1 f p1)) := of_decide_eq_true c_81
                    have n_81 : 224 ≤ by1 f p1 := (le_nI (p := 224) (n := by1 f p1) (by decide) (Nat.lt_trans (by1_lt _ _) (by decide))).mp c_81
                    refine ps_st (S' := (89, [(0, .ref m0), (1, .int (nI j)), (4, .int (nI l.length)), (5, .int (nI p1)), (6, .int (nI (p + m))), (7, .int (nI (by1 f p1)))], [.int 2], M1)) rfl rfl rfl ?_
                    refine pl_top (x := 2) (y := (nI (moN (by1 f p1)))) (congrArg nI (show 2 = moN (by1 f p1) by unfold moN; first | ((repeat first | rw [if_pos (by omega)] | rw [if_neg (by omega)]) <;> first | rfl | omega) | ((repeat' split) <;> first | rfl | (exfalso; omega) | omega))) ?_
                    refine ps_st (S' := (91, [(8, .int (nI (moN (by1 f p1)))), (0, .ref m0), (1, .int (nI j)), (4, .int (nI l.length)), (5, .int (nI p1)), (6, .int (nI (p + m))), (7, .int (nI (by1 f p1)))], [], M1)) rfl rfl rfl ?_
                    refine ps_st (S' := (92, [(8, .int (nI (moN (by1 f p1)))), (0, .ref m0), (1, .int (nI j)), (4, .int (nI l.length)), (5, .int (nI p1)), (6, .int (nI (p + m))), (7, .int (nI (by1 f p1)))], [.int 1], M1)) rfl rfl rfl ?_
                    refine ps_st (S' := (94, [(0, .ref m0), (1, .int (nI j)), (4, .int (nI l.length)), (5, .int (nI p1)), (6, .int (nI (p + m))), (7, .int (nI (by1 f p1))), (8, .int (nI (moN (by1 f p1)))), (9, .int 1)], [], M1)) rfl rfl rfl ?_
                    exact ih.2 (p1) (l) (1) M1 I1 R1 hR1 hEI1 hER1 hF1 hY1 hU1 hK1 (hp1) (hs) (by omega) (by omega) (by omega) (fun j a b => by omega)
                  · have c_81 : ¬ (224 ≤ (nI (by1 f p1))) := of_decide_eq_false c_81
                    have n_81 : ¬ (224 ≤ by1 f p1) := fun h9 => c_81 ((le_nI (p := 224) (n := by1 f p1) (by decide) (Nat.lt_trans (by1_lt _ _) (by decide))).mpr h9)
                    refine ps_st (S' := (85, [(0, .ref m0), (1, .int (nI j)), (4, .int (nI l.length)), (5, .int (nI p1)), (6, .int (nI (p + m))), (7, .int (nI (by1 f p1)))], [.int 1], M1)) rfl rfl rfl ?_
                    refine ps_st (S' := (89, [(0, .ref m0), (1, .int (nI j)), (4, .int (nI l.length)), (5, .int (nI p1)), (6, .int (nI (p + m))), (7, .int (nI (by1 f p1)))], [.int 1], M1)) rfl rfl rfl ?_
                    refine pl_top (x := 1) (y := (nI (moN (by1 f p1)))) (congrArg nI (show 1 = moN (by1 f p1) by unfold moN; first | ((repeat first | rw [if_pos (by omega)] | rw [if_neg (by omega)]) <;> first | rfl | omega) | ((repeat' split) <;> first | rfl | (exfalso; omega) | omega))) ?_
                    refine ps_st (S' := (91, [(8, .int (nI (moN (by1 f p1)))), (0, .ref m0), (1, .int (nI j)), (4, .int (nI l.length)), (5, .int (nI p1)), (6, .int (nI (p + m))), (7, .int (nI (by1 f p1)))], [], M1)) rfl rfl rfl ?_
                    refine ps_st (S' := (92, [(8, .int (nI (moN (by1 f p1)))), (0, .ref m0), (1, .int (nI j)), (4, .int (nI l.length)), (5, .int (nI p1)), (6, .int (nI (p + m))), (7, .int (nI (by1 f p1)))], [.int 1], M1)) rfl rfl rfl ?_
                    refine ps_st (S' := (94, [(0, .ref m0), (1, .int (nI j)), (4, .int (nI l.length)), (5, .int (nI p1)), (6, .int (nI (p + m))), (7, .int (nI (by1 f p1))), (8, .int (nI (moN (by1 f p1)))), (9, .int 1)], [], M1)) rfl rfl rfl ?_
                    exact ih.2 (p1) (l) (1) M1 I1 R1 hR1 hEI1 hER1 hF1 hY1 hU1 hK1 (hp1) (hs) (by omega) (by omega) (by omega) (fun j a b => by omega)
                · have c_69 : ¬ (128 ≤ (nI (by1 f p1))) := of_decide_eq_false c_69
                  have n_69 : ¬ (128 ≤ by1 f p1) := fun h9 => c_69 ((le_nI (p := 128) (n := by1 f p1) (by decide) (Nat.lt_trans (by1_lt _ _) (by decide))).mpr h9)
                  refine ps_st (S' := (73, [(0, .ref m0), (1, .int (nI j)), (4, .int (nI l.length)), (5, .int (nI p1)), (6, .int (nI (p + m))), (7, .int (nI (by1 f p1)))], [.int 0], M1)) rfl rfl rfl ?_
                  refine ps_st (S' := (89, [(0, .ref m0), (1, .int (nI j)), (4, .int (nI l.length)), (5, .int (nI p1)), (6, .int (nI (p + m))), (7, .int (nI (by1 f p1)))], [.int 0], M1)) rfl rfl rfl ?_
                  refine pl_top (x := 0) (y := (nI (moN (by1 f p1)))) (congrArg nI (show 0 = moN (by1 f p1) by unfold moN; first | ((repeat first | rw [if_pos (by omega)] | rw [if_neg (by omega)]) <;> first | rfl | omega) | ((repeat' split) <;> first | rfl | (exfalso; omega) | omega))) ?_
                  refine ps_st (S' := (91, [(8, .int (nI (moN (by1 f p1)))), (0, .ref m0), (1, .int (nI j)), (4, .int (nI l.length)), (5, .int (nI p1)), (6, .int (nI (p + m))), (7, .int (nI (by1 f p1)))], [], M1)) rfl rfl rfl ?_
                  refine ps_st (S' := (92, [(8, .int (nI (moN (by1 f p1)))), (0, .ref m0), (1, .int (nI j)), (4, .int (nI l.length)), (5, .int (nI p1)), (6, .int (nI (p + m))), (7, .int (nI (by1 f p1)))], [.int 1], M1)) rfl rfl rfl ?_
                  refine ps_st (S' := (94, [(0, .ref m0), (1, .int (nI j)), (4, .int (nI l.length)), (5, .int (nI p1)), (6, .int (nI (p + m))), (7, .int (nI (by1 f p1))), (8, .int (nI (moN (by1 f p1)))), (9, .int 1)], [], M1)) rfl rfl rfl ?_
                  exact ih.2 (p1) (l) (1) M1 I1 R1 hR1 hEI1 hER1 hF1 hY1 hU1 hK1 (hp1) (hs) (by omega) (by omega) (by omega) (fun j a b => by omega)
              · have c_44 : ¬ ((nI (by1 f p1)) < 128) := of_decide_eq_false c_44
                have n_44 : ¬ (by1 f p1 < 128) := fun h9 => c_44 ((lt_nI (p := by1 f p1) (n := 128) (Nat.lt_trans (by1_lt _ _) (by decide)) (by decide)).mpr h9)
                refine ps_st (S' := (49, [(7, .int (nI (by1 f p1))), (0, .ref m0), (1, .int (nI j)), (4, .int (nI l.length)), (5, .int (nI p1)), (6, .int (nI (p + m)))], [.int (nI (by1 f p1))], M1)) rfl rfl rfl ?_
                refine ps_st (S' := (52, [(7, .int (nI (by1 f p1))), (0, .ref m0), (1, .int (nI j)), (4, .int (nI l.length)), (5, .int (nI p1)), (6, .int (nI (p + m)))], [.int 191, .int (nI (by1 f p1))], M1)) rfl rfl rfl ?_
                refine ps_if2 (S1 := (64, [(0, .ref m0), (1, .int (nI j)), (4, .int (nI l.length)), (5, .int (nI p1)), (6, .int (nI (p + m))), (7, .int (nI (by1 f p1)))], [], M1)) (S2 := (55, [(0, .ref m0), (5, .int (nI p1))], [], M1)) rfl rfl rfl (fun c_52 => ?_) (fun c_52 => ?_)
                · have c_52 : 191 < (nI (by1 f p1)) := of_decide_eq_true c_52
                  have n_52 : 191 < by1 f p1 := (lt_nI (p := 191) (n := by1 f p1) (by decide) (Nat.lt_trans (by1_lt _ _) (by decide))).mp c_52
                  refine ps_st (S' := (66, [(0, .ref m0), (1, .int (nI j)), (4, .int (nI l.length)), (5, .int (nI p1)), (6, .int (nI (p + m))), (7, .int (nI (by1 f p1)))], [.int (nI (by1 f p1))], M1)) rfl rfl rfl ?_
                  refine ps_st (S' := (69, [(0, .ref m0), (1, .int (nI j)), (4, .int (nI l.length)), (5, .int (nI p1)), (6, .int (nI (p + m))), (7, .int (nI (by1 f p1)))], [.int 128, .int (nI (by1 f p1))], M1)) rfl rfl rfl ?_
                  refine ps_if2 (S1 := (76, [(0, .ref m0), (1, .int (nI j)), (4, .int (nI l.length)), (5, .int (nI p1)), (6, .int (nI (p + m))), (7, .int (nI (by1 f p1)))], [], M1)) (S2 := (72, [(0, .ref m0), (1, .int (nI j)), (4, .int (nI l.length)), (5, .int (nI p1)), (6, .int (nI (p + m))), (7, .int (nI (by1 f p1)))], [], M1)) rfl rfl rfl (fun c_69 => ?_) (fun c_69 => ?_)
                  · have c_69 : 128 ≤ (nI (by1 f p1)) := of_decide_eq_true c_69
                    have n_69 : 128 ≤ by1 f p1 := (le_nI (p := 128) (n := by1 f p1) (by decide) (Nat.lt_trans (by1_lt _ _) (by decide))).mp c_69
                    refine ps_st (S' := (78, [(0, .ref m0), (1, .int (nI j)), (4, .int (nI l.length)), (5, .int (nI p1)), (6, .int (nI (p + m))), (7, .int (nI (by1 f p1)))], [.int (nI (by1 f p1))], M1)) rfl rfl rfl ?_
                    refine ps_st (S' := (81, [(0, .ref m0), (1, .int (nI j)), (4, .int (nI l.length)), (5, .int (nI p1)), (6, .int (nI (p + m))), (7, .int (nI (by1 f p1)))], [.int 224, .int (nI (by1 f p1))], M1)) rfl rfl rfl ?_
                    refine ps_if2 (S1 := (88, [(0, .ref m0), (1, .int (nI j)), (4, .int (nI l.length)), (5, .int (nI p1)), (6, .int (nI (p + m))), (7, .int (nI (by1 f p1)))], [], M1)) (S2 := (84, [(0, .ref m0), (1, .int (nI j)), (4, .int (nI l.length)), (5, .int (nI p1)), (6, .int (nI (p + m))), (7, .int (nI (by1 f p1)))], [], M1)) rfl rfl rfl (fun c_81 => ?_) (fun c_81 => ?_)
                    · have c_81 : 224 ≤ (nI (by1 f p1)) := of_decide_eq_true c_81
                      have n_81 : 224 ≤ by1 f p1 := (le_nI (p := 224) (n := by1 f p1) (by decide) (Nat.lt_trans (by1_lt _ _) (by decide))).mp c_81
                      refine ps_st (S' := (89, [(0, .ref m0), (1, .int (nI j)), (4, .int (nI l.length)), (5, .int (nI p1)), (6, .int (nI (p + m))), (7, .int (nI (by1 f p1)))], [.int 2], M1)) rfl rfl rfl ?_
                      refine pl_top (x := 2) (y := (nI (moN (by1 f p1)))) (congrArg nI (show 2 = moN (by1 f p1) by unfold moN; first | ((repeat first | rw [if_pos (by omega)] | rw [if_neg (by omega)]) <;> first | rfl | omega) | ((repeat' split) <;> first | rfl | (exfalso; omega) | omega))) ?_
                      refine ps_st (S' := (91, [(8, .int (nI (moN (by1 f p1)))), (0, .ref m0), (1, .int (nI j)), (4, .int (nI l.length)), (5, .int (nI p1)), (6, .int (nI (p + m))), (7, .int (nI (by1 f p1)))], [], M1)) rfl rfl rfl ?_
                      refine ps_st (S' := (92, [(8, .int (nI (moN (by1 f p1)))), (0, .ref m0), (1, .int (nI j)), (4, .int (nI l.length)), (5, .int (nI p1)), (6, .int (nI (p + m))), (7, .int (nI (by1 f p1)))], [.int 1], M1)) rfl rfl rfl ?_
                      refine ps_st (S' := (94, [(0, .ref m0), (1, .int (nI j)), (4, .int (nI l.length)), (5, .int (nI p1)), (6, .int (nI (p + m))), (7, .int (nI (by1 f p1))), (8, .int (nI (moN (by1 f p1)))), (9, .int 1)], [], M1)) rfl rfl rfl ?_
                      exact ih.2 (p1) (l) (1) M1 I1 R1 hR1 hEI1 hER1 hF1 hY1 hU1 hK1 (hp1) (hs) (by omega) (by omega) (by omega) (fun j a b => by omega)
                    · have c_81 : ¬ (224 ≤ (nI (by1 f p1))) := of_decide_eq_false c_81
                      have n_81 : ¬ (224 ≤ by1 f p1) := fun h9 => c_81 ((le_nI (p := 224) (n := by1 f p1) (by decide) (Nat.lt_trans (by1_lt _ _) (by decide))).mpr h9)
                      refine ps_st (S' := (85, [(0, .ref m0), (1, .int (nI j)), (4, .int (nI l.length)), (5, .int (nI p1)), (6, .int (nI (p + m))), (7, .int (nI (by1 f p1)))], [.int 1], M1)) rfl rfl rfl ?_
                      refine ps_st (S' := (89, [(0, .ref m0), (1, .int (nI j)), (4, .int (nI l.length)), (5, .int (nI p1)), (6, .int (nI (p + m))), (7, .int (nI (by1 f p1)))], [.int 1], M1)) rfl rfl rfl ?_
                      refine pl_top (x := 1) (y := (nI (moN (by1 f p1)))) (congrArg nI (show 1 = moN (by1 f p1) by unfold moN; first | ((repeat first | rw [if_pos (by omega)] | rw [if_neg (by omega)]) <;> first | rfl | omega) | ((repeat' split) <;> first | rfl | (exfalso; omega) | omega))) ?_
                      refine ps_st (S' := (91, [(8, .int (nI (moN (by1 f p1)))), (0, .ref m0), (1, .int (nI j)), (4, .int (nI l.length)), (5, .int (nI p1)), (6, .int (nI (p + m))), (7, .int (nI (by1 f p1)))], [], M1)) rfl rfl rfl ?_
                      refine ps_st (S' := (92, [(8, .int (nI (moN (by1 f p1)))), (0, .ref m0), (1, .int (nI j)), (4, .int (nI l.length)), (5, .int (nI p1)), (6, .int (nI (p + m))), (7, .int (nI (by1 f p1)))], [.int 1], M1)) rfl rfl rfl ?_
                      refine ps_st (S' := (94, [(0, .ref m0), (1, .int (nI j)), (4, .int (nI l.length)), (5, .int (nI p1)), (6, .int (nI (p + m))), (7, .int (nI (by1 f p1))), (8, .int (nI (moN (by1 f p1)))), (9, .int 1)], [], M1)) rfl rfl rfl ?_
                      exact ih.2 (p1) (l) (1) M1 I1 R1 hR1 hEI1 hER1 hF1 hY1 hU1 hK1 (hp1) (hs) (by omega) (by omega) (by omega) (fun j a b => by omega)
                  · have c_69 : ¬ (128 ≤ (nI (by1 f p1))) := of_decide_eq_false c_69
                    have n_69 : ¬ (128 ≤ by1 f p1) := fun h9 => c_69 ((le_nI (p := 128) (n := by1 f p1) (by decide) (Nat.lt_trans (by1_lt _ _) (by decide))).mpr h9)
                    refine ps_st (S' := (73, [(0, .ref m0), (1, .int (nI j)), (4, .int (nI l.length)), (5, .int (nI p1)), (6, .int (nI (p + m))), (7, .int (nI (by1 f p1)))], [.int 0], M1)) rfl rfl rfl ?_
                    refine ps_st (S' := (89, [(0, .ref m0), (1, .int (nI j)), (4, .int (nI l.length)), (5, .int (nI p1)), (6, .int (nI (p + m))), (7, .int (nI (by1 f p1)))], [.int 0], M1)) rfl rfl rfl ?_
                    refine pl_top (x := 0) (y := (nI (moN (by1 f p1)))) (congrArg nI (show 0 = moN (by1 f p1) by unfold moN; first | ((repeat first | rw [if_pos (by omega)] | rw [if_neg (by omega)]) <;> first | rfl | omega) | ((repeat' split) <;> first | rfl | (exfalso; omega) | omega))) ?_
                    refine ps_st (S' := (91, [(8, .int (nI (moN (by1 f p1)))), (0, .ref m0), (1, .int (nI j)), (4, .int (nI l.length)), (5, .int (nI p1)), (6, .int (nI (p + m))), (7, .int (nI (by1 f p1)))], [], M1)) rfl rfl rfl ?_
                    refine ps_st (S' := (92, [(8, .int (nI (moN (by1 f p1)))), (0, .ref m0), (1, .int (nI j)), (4, .int (nI l.length)), (5, .int (nI p1)), (6, .int (nI (p + m))), (7, .int (nI (by1 f p1)))], [.int 1], M1)) rfl rfl rfl ?_
                    refine ps_st (S' := (94, [(0, .ref m0), (1, .int (nI j)), (4, .int (nI l.length)), (5, .int (nI p1)), (6, .int (nI (p + m))), (7, .int (nI (by1 f p1))), (8, .int (nI (moN (by1 f p1)))), (9, .int 1)], [], M1)) rfl rfl rfl ?_
                    exact ih.2 (p1) (l) (1) M1 I1 R1 hR1 hEI1 hER1 hF1 hY1 hU1 hK1 (hp1) (hs) (by omega) (by omega) (by omega) (fun j a b => by omega)
                · have c_52 : ¬ (191 < (nI (by1 f p1))) := of_decide_eq_false c_52
                  have n_52 : ¬ (191 < by1 f p1) := fun h9 => c_52 ((lt_nI (p := 191) (n := by1 f p1) (by decide) (Nat.lt_trans (by1_lt _ _) (by decide))).mpr h9)
                  refine ps_st (S' := (56, [(0, .ref m0), (5, .int (nI p1))], [.ref m0], M1)) rfl rfl rfl ?_
                  refine ps_st (S' := (58, [(0, .ref m0), (5, .int (nI p1))], [.int 6, .ref m0], M1)) rfl rfl rfl ?_
                  refine ps_st (S' := (60, [(0, .ref m0), (5, .int (nI p1))], [.int (nI p1), .int 6, .ref m0], M1)) rfl rfl rfl ?_
                  refine pl_call (a := [.ref m0, .int 6, .int (nI p1)]) (rest := []) rfl rfl rfl (rd_wrong (x1 := 6) (x2 := (nI p1)) hR1) (fun v62 M63 q64 => ?_)
                  obtain ⟨I65, R66, rfl, hR67, hI68, hX69, hi70, hi71⟩ := q64
                  have hF_72 := hF1.mono (cIx hI68 (by decide)) (cRx hX69 (by decide))
                  have hY_73 := hY1.mono (cIx hI68 (by decide)) (cRx hX69 (by decide))
                  have hU_74 := hU1.mono (cIx hI68 (by decide)) (cRx hX69 (by decide))
                  have hK_75 := hK1.mono (cIx hI68 (by decide)) (cRx hX69 (by decide))
                  have hEI76 := hEI1.tr hI68 (by decide)
                  have hER77 := hER1.tr hX69 (by decide)
                  show pl _ _ _ (63, [(0, .ref m0), (5, .int (nI p1))], [.int 0], M63) _
                  exact ps_ret rfl rfl (Or.inr ⟨p1, I65, R66, by
                      rw [← hs]
                      exact s_text_bad (by omega) (u8k_0 (by omega)), rfl, hR67, hEI76, hER77, hi70, hi71⟩)
      · skip
        intro p1 l i M1 I1 R1 hR1 hEI1 hER1 hF1 hY1 hU1 hK1 hp1 hs hlt hg hi hok
        have hmo := moN_le (by1 f p1)
        have hn := hF1.1
        have hu9 := by1_lt f p1
        refine ps_st1 (S' := (96, [(0, .ref m0), (1, .int (nI j)), (4, .int (nI l.length)), (5, .int (nI p1)), (6, .int (nI (p + m))), (7, .int (nI (by1 f p1))), (8, .int (nI (moN (by1 f p1)))), (9, .int (nI i))], [.int (nI i)], M1)) rfl rfl rfl ?_
        refine ps_st (S' := (98, [(0, .ref m0), (1, .int (nI j)), (4, .int (nI l.length)), (5, .int (nI p1)), (6, .int (nI (p + m))), (7, .int (nI (by1 f p1))), (8, .int (nI (moN (by1 f p1)))), (9, .int (nI i))], [.int (nI (moN (by1 f p1))), .int (nI i)], M1)) rfl rfl rfl ?_
        refine ps_if2 (S1 := (145, [(0, .ref m0), (1, .int (nI j)), (4, .int (nI l.length)), (5, .int (nI p1)), (6, .int (nI (p + m))), (7, .int (nI (by1 f p1))), (8, .int (nI (moN (by1 f p1)))), (9, .int (nI i))], [], M1)) (S2 := (101, [(0, .ref m0), (1, .int (nI j)), (4, .int (nI l.length)), (5, .int (nI p1)), (6, .int (nI (p + m))), (7, .int (nI (by1 f p1))), (8, .int (nI (moN (by1 f p1)))), (9, .int (nI i))], [], M1)) rfl rfl rfl (fun c_98 => ?_) (fun c_98 => ?_)
        · have c_98 : (nI (moN (by1 f p1))) < (nI i) := of_decide_eq_true c_98
          have n_98 : moN (by1 f p1) < i := (lt_nI (p := moN (by1 f p1)) (n := i) (by omega) (by omega)).mp c_98
          refine ps_st (S' := (146, [(0, .ref m0), (1, .int (nI j)), (4, .int (nI l.length)), (5, .int (nI p1)), (6, .int (nI (p + m))), (7, .int (nI (by1 f p1))), (8, .int (nI (moN (by1 f p1)))), (9, .int (nI i))], [.ref m0], M1)) rfl rfl rfl ?_
          refine pr_ref (j := 2) (S' := (149, [(0, .ref m0), (1, .int (nI j)), (4, .int (nI l.length)), (5, .int (nI p1)), (6, .int (nI (p + m))), (7, .int (nI (by1 f p1))), (8, .int (nI (moN (by1 f p1)))), (9, .int (nI i))], [.ref (q 2)], M1)) rfl hR1 rfl rfl ?_
          refine ps_st (S' := (151, [(0, .ref m0), (1, .int (nI j)), (4, .int (nI l.length)), (5, .int (nI p1)), (6, .int (nI (p + m))), (7, .int (nI (by1 f p1))), (8, .int (nI (moN (by1 f p1)))), (9, .int (nI i))], [.int (nI l.length), .ref (q 2)], M1)) rfl rfl rfl ?_
          refine ps_st (S' := (154, [(4, .int ((nI l.length) + 1)), (0, .ref m0), (1, .int (nI j)), (5, .int (nI p1)), (6, .int (nI (p + m))), (7, .int (nI (by1 f p1))), (8, .int (nI (moN (by1 f p1)))), (9, .int (nI i))], [.int (nI l.length), .ref (q 2)], M1)) rfl rfl rfl ?_
          rw [nI_add1 (p := l.length) (k := 1) (x := 1) rfl (by omega)]
          show pl _ _ _ (_, [(4, .int (nI (l.length + 1))), (0, .ref m0), (1, .int (nI j)), (5, .int (nI p1)), (6, .int (nI (p + m))), (7, .int (nI (by1 f p1))), (8, .int (nI (moN (by1 f p1)))), (9, .int (nI i))], [.int (nI l.length), .ref (q 2)], M1) _
          refine ps_st (S' := (156, [(4, .int (nI (l.length + 1))), (0, .ref m0), (1, .int (nI j)), (5, .int (nI p1)), (6, .int (nI (p + m))), (7, .int (nI (by1 f p1))), (8, .int (nI (moN (by1 f p1)))), (9, .int (nI i))], [.int (nI (moN (by1 f p1))), .int (nI l.length), .ref (q 2)], M1)) rfl rfl rfl ?_
          refine ps_if (S1 := (164, [(4, .int (nI (l.length + 1))), (0, .ref m0), (1, .int (nI j)), (5, .int (nI p1)), (6, .int (nI (p + m))), (7, .int (nI (by1 f p1))), (8, .int (nI (moN (by1 f p1)))), (9, .int (nI i))], [.int (nI l.length), .ref (q 2)], M1)) (S2 := (159, [(4, .int (nI (l.length + 1))), (0, .ref m0), (1, .int (nI j)), (5, .int (nI p1)), (6, .int (nI (p + m))), (7, .int (nI (by1 f p1))), (8, .int (nI (moN (by1 f p1)))), (9, .int (nI i))], [.int (nI l.length), .ref (q 2)], M1)) rfl rfl rfl (fun c_156 => ?_) (fun c_156 => ?_)
          · have c_156 : ¬ (nI (moN (by1 f p1))) = 0 := of_decide_eq_true c_156
            have n_156 : ¬ (moN (by1 f p1) = 0) := fun h9 => c_156 ((eq_nI (p := moN (by1 f p1)) (n := 0) (by omega) (by decide)).mpr h9)
            refine ps_st (S' := (166, [(4, .int (nI (l.length + 1))), (0, .ref m0), (1, .int (nI j)), (5, .int (nI p1)), (6, .int (nI (p + m))), (7, .int (nI (by1 f p1))), (8, .int (nI (moN (by1 f p1)))), (9, .int (nI i))], [.int (nI (moN (by1 f p1))), .int (nI l.length), .ref (q 2)], M1)) rfl rfl rfl ?_
            refine ps_st (S' := (167, [(4, .int (nI (l.length + 1))), (0, .ref m0), (1, .int (nI j)), (5, .int (nI p1)), (6, .int (nI (p + m))), (7, .int (nI (by1 f p1))), (8, .int (nI (moN (by1 f p1)))), (9, .int (nI i))], [.int 1, .int (nI (moN (by1 f p1))), .int (nI l.length), .ref (q 2)], M1)) rfl rfl rfl ?_
            refine ps_if2 (S1 := (193, [(4, .int (nI (l.length + 1))), (0, .ref m0), (1, .int (nI j)), (5, .int (nI p1)), (6, .int (nI (p + m))), (7, .int (nI (by1 f p1))), (8, .int (nI (moN (by1 f p1)))), (9, .int (nI i))], [.int (nI l.length), .ref (q 2)], M1)) (S2 := (170, [(4, .int (nI (l.length + 1))), (0, .ref m0), (1, .int (nI j)), (5, .int (nI p1)), (6, .int (nI (p + m))), (7, .int (nI (by1 f p1))), (8, .int (nI (moN (by1 f p1)))), (9, .int (nI i))], [.int (nI l.length), .ref (q 2)], M1)) rfl rfl rfl (fun c_167 => ?_) (fun c_167 => ?_)
            · have c_167 : ¬ (nI (moN (by1 f p1))) = 1 := of_decide_eq_true c_167
              have n_167 : ¬ (moN (by1 f p1) = 1) := fun h9 => c_167 ((eq_nI (p := moN (by1 f p1)) (n := 1) (by omega) (by decide)).mpr h9)
              refine ps_st (S' := (195, [(4, .int (nI (l.length + 1))), (0, .ref m0), (1, .int (nI j)), (5, .int (nI p1)), (6, .int (nI (p + m))), (7, .int (nI (by1 f p1))), (8, .int (nI (moN (by1 f p1)))), (9, .int (nI i))], [.int (nI (by1 f p1)), .int (nI l.length), .ref (q 2)], M1)) rfl rfl rfl ?_
              refine ps_st (S' := (197, [(4, .int (nI (l.length + 1))), (0, .ref m0), (1, .int (nI j)), (5, .int (nI p1)), (6, .int (nI (p + m))), (7, .int (nI (by1 f p1))), (8, .int (nI (moN (by1 f p1)))), (9, .int (nI i))], [.int 15, .int (nI (by1 f p1)), .int (nI l.length), .ref (q 2)], M1)) rfl rfl rfl ?_
              refine ps_st (S' := (198, [(4, .int (nI (l.length + 1))), (0, .ref m0), (1, .int (nI j)), (5, .int (nI p1)), (6, .int (nI (p + m))), (7, .int (nI (by1 f p1))), (8, .int (nI (moN (by1 f p1)))), (9, .int (nI i))], [.int ((nI (by1 f p1)) &&& 15), .int (nI l.length), .ref (q 2)], M1)) rfl rfl rfl ?_
              refine ps_st (S' := (200, [(4, .int (nI (l.length + 1))), (0, .ref m0), (1, .int (nI j)), (5, .int (nI p1)), (6, .int (nI (p + m))), (7, .int (nI (by1 f p1))), (8, .int (nI (moN (by1 f p1)))), (9, .int (nI i))], [.int 12, .int ((nI (by1 f p1)) &&& 15), .int (nI l.length), .ref (q 2)], M1)) rfl rfl rfl ?_
              refine ps_st (S' := (201, [(4, .int (nI (l.length + 1))), (0, .ref m0), (1, .int (nI j)), (5, .int (nI p1)), (6, .int (nI (p + m))), (7, .int (nI (by1 f p1))), (8, .int (nI (moN (by1 f p1)))), (9, .int (nI i))], [.int (((nI (by1 f p1)) &&& 15) <<< (12 &&& 31)), .int (nI l.length), .ref (q 2)], M1)) rfl rfl rfl ?_
              have hq1 := hok 1 (by decide) (by omega)
              refine ps_st (S' := (202, [(4, .int (nI (l.length + 1))), (0, .ref m0), (1, .int (nI j)), (5, .int (nI p1)), (6, .int (nI (p + m))), (7, .int (nI (by1 f p1))), (8, .int (nI (moN (by1 f p1)))), (9, .int (nI i))], [.ref m0, .int (((nI (by1 f p1)) &&& 15) <<< (12 &&& 31)), .int (nI l.length), .ref (q 2)], M1)) rfl rfl rfl ?_
              refine ps_st (S' := (204, [(4, .int (nI (l.length + 1))), (0, .ref m0), (1, .int (nI j)), (5, .int (nI p1)), (6, .int (nI (p + m))), (7, .int (nI (by1 f p1))), (8, .int (nI (moN (by1 f p1)))), (9, .int (nI i))], [.int (nI p1), .ref m0, .int (((nI (by1 f p1)) &&& 15) <<< (12 &&& 31)), .int (nI l.length), .ref (q 2)], M1)) rfl rfl rfl ?_
              refine ps_st (S' := (205, [(4, .int (nI (l.length + 1))), (0, .ref m0), (1, .int (nI j)), (5, .int (nI p1)), (6, .int (nI (p + m))), (7, .int (nI (by1 f p1))), (8, .int (nI (moN (by1 f p1)))), (9, .int (nI i))], [.int 1, .int (nI p1), .ref m0, .int (((nI (by1 f p1)) &&& 15) <<< (12 &&& 31)), .int (nI l.length), .ref (q 2)], M1)) rfl rfl rfl ?_
              refine ps_st (S' := (206, [(4, .int (nI (l.length + 1))), (0, .ref m0), (1, .int (nI j)), (5, .int (nI p1)), (6, .int (nI (p + m))), (7, .int (nI (by1 f p1))), (8, .int (nI (moN (by1 f p1)))), (9, .int (nI i))], [.int ((nI p1) + 1), .ref m0, .int (((nI (by1 f p1)) &&& 15) <<< (12 &&& 31)), .int (nI l.length), .ref (q 2)], M1)) rfl rfl rfl ?_
              rw [nI_add1 (p := p1) (k := 1) (x := 1) rfl (by omega)]
              show pl _ _ _ (_, [(4, .int (nI (l.length + 1))), (0, .ref m0), (1, .int (nI j)), (5, .int (nI p1)), (6, .int (nI (p + m))), (7, .int (nI (by1 f p1))), (8, .int (nI (moN (by1 f p1)))), (9, .int (nI i))], [.int (nI (p1 + 1)), .ref m0, .int (((nI (by1 f p1)) &&& 15) <<< (12 &&& 31)), .int (nI l.length), .ref (q 2)], M1) _
              refine pl_call (a := [.ref m0, .int (nI (p1 + 1))]) (rest := [.int (((nI (by1 f p1)) &&& 15) <<< (12 &&& 31)), .int (nI l.length), .ref (q 2)]) rfl rfl rfl (rd_u1 (n := n) (f := f) (p := (p1 + 1)) hR1 hF1 (by omega)) (fun v78 M79 q80 => ?_)
              obtain ⟨rfl, rfl⟩ := q80
              show pl _ _ _ (209, [(4, .int (nI (l.length + 1))), (0, .ref m0), (1, .int (nI j)), (5, .int (nI p1)), (6, .int (nI (p + m))), (7, .int (nI (by1 f p1))), (8, .int (nI (moN (by1 f p1)))), (9, .int (nI i))], [.int (nI (by1 f (p1 + 1))), .int (((nI (by1 f p1)) &&& 15) <<< (12 &&& 31)), .int (nI l.length), .ref (q 2)], M1) _
              have hu_206 := by1_lt f (p1 + 1)
              refine ps_st (S' := (211, [(4, .int (nI (l.length + 1))), (0, .ref m0), (1, .int (nI j)), (5, .int (nI p1)), (6, .int (nI (p + m))), (7, .int (nI (by1 f p1))), (8, .int (nI (moN (by1 f p1)))), (9, .int (nI i))], [.int 63, .int (nI (by1 f (p1 + 1))), .int (((nI (by1 f p1)) &&& 15) <<< (12 &&& 31)), .int (nI l.length), .ref (q 2)], M1)) rfl rfl rfl ?_
              refine ps_st (S' := (212, [(4, .int (nI (l.length + 1))), (0, .ref m0), (1, .int (nI j)), (5, .int (nI p1)), (6, .int (nI (p + m))), (7, .int (nI (by1 f p1))), (8, .int (nI (moN (by1 f p1)))), (9, .int (nI i))], [.int ((nI (by1 f (p1 + 1))) &&& 63), .int (((nI (by1 f p1)) &&& 15) <<< (12 &&& 31)), .int (nI l.length), .ref (q 2)], M1)) rfl rfl rfl ?_
              refine ps_st (S' := (214, [(4, .int (nI (l.length + 1))), (0, .ref m0), (1, .int (nI j)), (5, .int (nI p1)), (6, .int (nI (p + m))), (7, .int (nI (by1 f p1))), (8, .int (nI (moN (by1 f p1)))), (9, .int (nI i))], [.int 6, .int ((nI (by1 f (p1 + 1))) &&& 63), .int (((nI (by1 f p1)) &&& 15) <<< (12 &&& 31)), .int (nI l.length), .ref (q 2)], M1)) rfl rfl rfl ?_
              refine ps_st (S' := (215, [(4, .int (nI (l.length + 1))), (0, .ref m0), (1, .int (nI j)), (5, .int (nI p1)), (6, .int (nI (p + m))), (7, .int (nI (by1 f p1))), (8, .int (nI (moN (by1 f p1)))), (9, .int (nI i))], [.int (((nI (by1 f (p1 + 1))) &&& 63) <<< (6 &&& 31)), .int (((nI (by1 f p1)) &&& 15) <<< (12 &&& 31)), .int (nI l.length), .ref (q 2)], M1)) rfl rfl rfl ?_
              refine ps_st (S' := (216, [(4, .int (nI (l.length + 1))), (0, .ref m0), (1, .int (nI j)), (5, .int (nI p1)), (6, .int (nI (p + m))), (7, .int (nI (by1 f p1))), (8, .int (nI (moN (by1 f p1)))), (9, .int (nI i))], [.int ((((nI (by1 f p1)) &&& 15) <<< (12 &&& 31)) ||| (((nI (by1 f (p1 + 1))) &&& 63) <<< (6 &&& 31))), .int (nI l.length), .ref (q 2)], M1)) rfl rfl rfl ?_
              have hq2 := hok 2 (by decide) (by omega)
              refine ps_st (S' := (217, [(4, .int (nI (l.length + 1))), (0, .ref m0), (1, .int (nI j)), (5, .int (nI p1)), (6, .int (nI (p + m))), (7, .int (nI (by1 f p1))), (8, .int (nI (moN (by1 f p1)))), (9, .int (nI i))], [.ref m0, .int ((((nI (by1 f p1)) &&& 15) <<< (12 &&& 31)) ||| (((nI (by1 f (p1 + 1))) &&& 63) <<< (6 &&& 31))), .int (nI l.length), .ref (q 2)], M1)) rfl rfl rfl ?_
              refine ps_st (S' := (219, [(4, .int (nI (l.length + 1))), (0, .ref m0), (1, .int (nI j)), (5, .int (nI p1)), (6, .int (nI (p + m))), (7, .int (nI (by1 f p1))), (8, .int (nI (moN (by1 f p1)))), (9, .int (nI i))], [.int (nI p1), .ref m0, .int ((((nI (by1 f p1)) &&& 15) <<< (12 &&& 31)) ||| (((nI (by1 f (p1 + 1))) &&& 63) <<< (6 &&& 31))), .int (nI l.length), .ref (q 2)], M1)) rfl rfl rfl ?_
              refine ps_st (S' := (220, [(4, .int (nI (l.length + 1))), (0, .ref m0), (1, .int (nI j)), (5, .int (nI p1)), (6, .int (nI (p + m))), (7, .int (nI (by1 f p1))), (8, .int (nI (moN (by1 f p1)))), (9, .int (nI i))], [.int 2, .int (nI p1), .ref m0, .int ((((nI (by1 f p1)) &&& 15) <<< (12 &&& 31)) ||| (((nI (by1 f (p1 + 1))) &&& 63) <<< (6 &&& 31))), .int (nI l.length), .ref (q 2)], M1)) rfl rfl rfl ?_
              refine ps_st (S' := (221, [(4, .int (nI (l.length + 1))), (0, .ref m0), (1, .int (nI j)), (5, .int (nI p1)), (6, .int (nI (p + m))), (7, .int (nI (by1 f p1))), (8, .int (nI (moN (by1 f p1)))), (9, .int (nI i))], [.int ((nI p1) + 2), .ref m0, .int ((((nI (by1 f p1)) &&& 15) <<< (12 &&& 31)) ||| (((nI (by1 f (p1 + 1))) &&& 63) <<< (6 &&& 31))), .int (nI l.length), .ref (q 2)], M1)) rfl rfl rfl ?_
              rw [nI_add1 (p := p1) (k := 2) (x := 2) rfl (by omega)]
              show pl _ _ _ (_, [(4, .int (nI (l.length + 1))), (0, .ref m0), (1, .int (nI j)), (5, .int (nI p1)), (6, .int (nI (p + m))), (7, .int (nI (by1 f p1))), (8, .int (nI (moN (by1 f p1)))), (9, .int (nI i))], [.int (nI (p1 + 2)), .ref m0, .int ((((nI (by1 f p1)) &&& 15) <<< (12 &&& 31)) ||| (((nI (by1 f (p1 + 1))) &&& 63) <<< (6 &&& 31))), .int (nI l.length), .ref (q 2)], M1) _
              refine pl_call (a := [.ref m0, .int (nI (p1 + 2))]) (rest := [.int ((((nI (by1 f p1)) &&& 15) <<< (12 &&& 31)) ||| (((nI (by1 f (p1 + 1))) &&& 63) <<< (6 &&& 31))), .int (nI l.length), .ref (q 2)]) rfl rfl rfl (rd_u1 (n := n) (f := f) (p := (p1 + 2)) hR1 hF1 (by omega)) (fun v81 M82 q83 => ?_)
              obtain ⟨rfl, rfl⟩ := q83
              show pl _ _ _ (224, [(4, .int (nI (l.length + 1))), (0, .ref m0), (1, .int (nI j)), (5, .int (nI p1)), (6, .int (nI (p + m))), (7, .int (nI (by1 f p1))), (8, .int (nI (moN (by1 f p1)))), (9, .int (nI i))], [.int (nI (by1 f (p1 + 2))), .int ((((nI (by1 f p1)) &&& 15) <<< (12 &&& 31)) ||| (((nI (by1 f (p1 + 1))) &&& 63) <<< (6 &&& 31))), .int (nI l.length), .ref (q 2)], M1) _
              have hu_221 := by1_lt f (p1 + 2)
              refine ps_st (S' := (226, [(4, .int (nI (l.length + 1))), (0, .ref m0), (1, .int (nI j)), (5, .int (nI p1)), (6, .int (nI (p + m))), (7, .int (nI (by1 f p1))), (8, .int (nI (moN (by1 f p1)))), (9, .int (nI i))], [.int 63, .int (nI (by1 f (p1 + 2))), .int ((((nI (by1 f p1)) &&& 15) <<< (12 &&& 31)) ||| (((nI (by1 f (p1 + 1))) &&& 63) <<< (6 &&& 31))), .int (nI l.length), .ref (q 2)], M1)) rfl rfl rfl ?_
              refine ps_st (S' := (227, [(4, .int (nI (l.length + 1))), (0, .ref m0), (1, .int (nI j)), (5, .int (nI p1)), (6, .int (nI (p + m))), (7, .int (nI (by1 f p1))), (8, .int (nI (moN (by1 f p1)))), (9, .int (nI i))], [.int ((nI (by1 f (p1 + 2))) &&& 63), .int ((((nI (by1 f p1)) &&& 15) <<< (12 &&& 31)) ||| (((nI (by1 f (p1 + 1))) &&& 63) <<< (6 &&& 31))), .int (nI l.length), .ref (q 2)], M1)) rfl rfl rfl ?_
              refine ps_st (S' := (228, [(0, .ref m0), (1, .int (nI j)), (4, .int (nI (l.length + 1))), (5, .int (nI p1)), (6, .int (nI (p + m))), (8, .int (nI (moN (by1 f p1))))], [.int (((((nI (by1 f p1)) &&& 15) <<< (12 &&& 31)) ||| (((nI (by1 f (p1 + 1))) &&& 63) <<< (6 &&& 31))) ||| ((nI (by1 f (p1 + 2))) &&& 63)), .int (nI l.length), .ref (q 2)], M1)) rfl rfl rfl ?_
              have hm9 : moN (by1 f p1) + 1 = 3 := by omega
              have hu8 := u8n_eq f p1 3
              refine pl_top (x := (((((nI (by1 f p1)) &&& 15) <<< (12 &&& 31)) ||| (((nI (by1 f (p1 + 1))) &&& 63) <<< (6 &&& 31))) ||| ((nI (by1 f (p1 + 2))) &&& 63))) (y := (nI (u8n f p1 3))) (hu8.1) ?_
              refine ps_st (S' := (229, [(0, .ref m0), (1, .int (nI j)), (4, .int (nI (l.length + 1))), (5, .int (nI p1)), (6, .int (nI (p + m))), (8, .int (nI (moN (by1 f p1))))], [.int (((nI (u8n f p1 3)).toUInt32 % 65536).toInt32), .int (nI l.length), .ref (q 2)], M1)) rfl rfl rfl ?_
              refine pl_top (x := (((nI (u8n f p1 3)).toUInt32 % 65536).toInt32)) (y := (nI (u8n f p1 3))) (i2c_nI hu8.2) ?_
              refine pr_st (a := 2) (j := l.length) rfl hR1 rfl (by omega) (fun M84 R85 i1_229 hR86 hS87 => ?_)
              have hF_88 := hF1.mono (fun _ _ => rfl) (rRx hS87 (by decide))
              have hY_89 := hY1.mono (fun _ _ => rfl) (rRx hS87 (by decide))
              have hK_90 := hK1.mono (fun _ _ => rfl) (rRx hS87 (by decide))
              have hER91 := hER1.st hS87 (by decide)
              show pl _ _ _ (230, [(0, .ref m0), (1, .int (nI j)), (4, .int (nI (l.length + 1))), (5, .int (nI p1)), (6, .int (nI (p + m))), (8, .int (nI (moN (by1 f p1))))], [], M84) _
              have hU_92 := hU1.snocL hS87 hu8.2
              rw [show l.length + 1 = (l ++ [u8n f p1 3]).length by simp] at hU_92
              rw [show nI (l.length + 1) = nI (l ++ [u8n f p1 3]).length from congrArg nI (by simp)]
              show pl _ _ _ (230, [(0, .ref m0), (1, .int (nI j)), (4, .int (nI (l ++ [u8n f p1 3]).length)), (5, .int (nI p1)), (6, .int (nI (p + m))), (8, .int (nI (moN (by1 f p1))))], [], M84) _
              refine ps_st (S' := (232, [(0, .ref m0), (1, .int (nI j)), (4, .int (nI (l ++ [u8n f p1 3]).length)), (5, .int (nI p1)), (6, .int (nI (p + m))), (8, .int (nI (moN (by1 f p1))))], [.int (nI p1)], M84)) rfl rfl rfl ?_
              refine ps_st (S' := (234, [(0, .ref m0), (1, .int (nI j)), (4, .int (nI (l ++ [u8n f p1 3]).length)), (5, .int (nI p1)), (6, .int (nI (p + m))), (8, .int (nI (moN (by1 f p1))))], [.int (nI (moN (by1 f p1))), .int (nI p1)], M84)) rfl rfl rfl ?_
              refine ps_st (S' := (235, [(0, .ref m0), (1, .int (nI j)), (4, .int (nI (l ++ [u8n f p1 3]).length)), (5, .int (nI p1)), (6, .int (nI (p + m))), (8, .int (nI (moN (by1 f p1))))], [.int 1, .int (nI (moN (by1 f p1))), .int (nI p1)], M84)) rfl rfl rfl ?_
              refine ps_st (S' := (236, [(0, .ref m0), (1, .int (nI j)), (4, .int (nI (l ++ [u8n f p1 3]).length)), (5, .int (nI p1)), (6, .int (nI (p + m))), (8, .int (nI (moN (by1 f p1))))], [.int ((nI (moN (by1 f p1))) + 1), .int (nI p1)], M84)) rfl rfl rfl ?_
              rw [nI_add1 (p := moN (by1 f p1)) (k := 1) (x := 1) rfl (by omega)]
              show pl _ _ _ (_, [(0, .ref m0), (1, .int (nI j)), (4, .int (nI (l ++ [u8n f p1 3]).length)), (5, .int (nI p1)), (6, .int (nI (p + m))), (8, .int (nI (moN (by1 f p1))))], [.int (nI (moN (by1 f p1) + 1)), .int (nI p1)], M84) _
              refine ps_st (S' := (237, [(0, .ref m0), (1, .int (nI j)), (4, .int (nI (l ++ [u8n f p1 3]).length)), (5, .int (nI p1)), (6, .int (nI (p + m))), (8, .int (nI (moN (by1 f p1))))], [.int ((nI p1) + (nI (moN (by1 f p1) + 1)))], M84)) rfl rfl rfl ?_
              rw [nI_add1 (p := p1) (k := moN (by1 f p1) + 1) (x := (nI (moN (by1 f p1) + 1))) rfl (by omega)]
              rw [show nI (p1 + (moN (by1 f p1) + 1)) = nI (p1 + moN (by1 f p1) + 1) from congrArg nI (by omega)]
              show pl _ _ _ (_, [(0, .ref m0), (1, .int (nI j)), (4, .int (nI (l ++ [u8n f p1 3]).length)), (5, .int (nI p1)), (6, .int (nI (p + m))), (8, .int (nI (moN (by1 f p1))))], [.int (nI (p1 + moN (by1 f p1) + 1))], M84) _
              refine pl_top (x := (nI (p1 + moN (by1 f p1) + 1))) (y := (nI (p1 + (moN (by1 f p1) + 1)))) (congrArg nI (by omega)) ?_
              refine ps_st (S' := (239, [(5, .int (nI (p1 + (moN (by1 f p1) + 1)))), (0, .ref m0), (1, .int (nI j)), (4, .int (nI (l ++ [u8n f p1 3]).length)), (6, .int (nI (p + m))), (8, .int (nI (moN (by1 f p1))))], [], M84)) rfl rfl rfl ?_
              refine ps_st (S' := (11, [(0, .ref m0), (1, .int (nI j)), (4, .int (nI (l ++ [u8n f p1 3]).length)), (5, .int (nI (p1 + (moN (by1 f p1) + 1)))), (6, .int (nI (p + m)))], [], M84)) rfl rfl rfl ?_
              have hk9 := u8k_ok (e := p + m) hg (fun j a b => hok j a (by omega))
              have hk10 := u8k_le (f := f) (e := p + m) hlt
              rw [hk9] at hk10
              exact ih.1 (p1 + (moN (by1 f p1) + 1)) (l ++ [u8n f p1 3]) M84 I1 R85 hR86 hEI1 hER91 hF_88 hY_89 hU_92 hK_90 (by rw [List.length_append]; show p ≤ _ ∧ _ ∧ l.length + 1 + _ ≤ m; omega) (by
                  rw [← hs, s_text_step (p := p1) (l := l) (by omega) (by omega), hk9, hm9])
            · have c_167 : ¬ (¬ (nI (moN (by1 f p1))) = 1) := of_decide_eq_false c_167
              have n_167 : moN (by1 f p1) = 1 := (eq_nI (p := moN (by1 f p1)) (n := 1) (by omega) (by decide)).mp (Decidable.not_not.mp c_167)
              refine ps_st (S' := (172, [(4, .int (nI (l.length + 1))), (0, .ref m0), (1, .int (nI j)), (5, .int (nI p1)), (6, .int (nI (p + m))), (7, .int (nI (by1 f p1))), (8, .int (nI (moN (by1 f p1)))), (9, .int (nI i))], [.int (nI (by1 f p1)), .int (nI l.length), .ref (q 2)], M1)) rfl rfl rfl ?_
              refine ps_st (S' := (174, [(4, .int (nI (l.length + 1))), (0, .ref m0), (1, .int (nI j)), (5, .int (nI p1)), (6, .int (nI (p + m))), (7, .int (nI (by1 f p1))), (8, .int (nI (moN (by1 f p1)))), (9, .int (nI i))], [.int 31, .int (nI (by1 f p1)), .int (nI l.length), .ref (q 2)], M1)) rfl rfl rfl ?_
              refine ps_st (S' := (175, [(4, .int (nI (l.length + 1))), (0, .ref m0), (1, .int (nI j)), (5, .int (nI p1)), (6, .int (nI (p + m))), (7, .int (nI (by1 f p1))), (8, .int (nI (moN (by1 f p1)))), (9, .int (nI i))], [.int ((nI (by1 f p1)) &&& 31), .int (nI l.length), .ref (q 2)], M1)) rfl rfl rfl ?_
              refine ps_st (S' := (177, [(4, .int (nI (l.length + 1))), (0, .ref m0), (1, .int (nI j)), (5, .int (nI p1)), (6, .int (nI (p + m))), (7, .int (nI (by1 f p1))), (8, .int (nI (moN (by1 f p1)))), (9, .int (nI i))], [.int 6, .int ((nI (by1 f p1)) &&& 31), .int (nI l.length), .ref (q 2)], M1)) rfl rfl rfl ?_
              refine ps_st (S' := (178, [(4, .int (nI (l.length + 1))), (0, .ref m0), (1, .int (nI j)), (5, .int (nI p1)), (6, .int (nI (p + m))), (7, .int (nI (by1 f p1))), (8, .int (nI (moN (by1 f p1)))), (9, .int (nI i))], [.int (((nI (by1 f p1)) &&& 31) <<< (6 &&& 31)), .int (nI l.length), .ref (q 2)], M1)) rfl rfl rfl ?_
              have hq1 := hok 1 (by decide) (by omega)
              refine ps_st (S' := (179, [(4, .int (nI (l.length + 1))), (0, .ref m0), (1, .int (nI j)), (5, .int (nI p1)), (6, .int (nI (p + m))), (7, .int (nI (by1 f p1))), (8, .int (nI (moN (by1 f p1)))), (9, .int (nI i))], [.ref m0, .int (((nI (by1 f p1)) &&& 31) <<< (6 &&& 31)), .int (nI l.length), .ref (q 2)], M1)) rfl rfl rfl ?_
              refine ps_st (S' := (181, [(4, .int (nI (l.length + 1))), (0, .ref m0), (1, .int (nI j)), (5, .int (nI p1)), (6, .int (nI (p + m))), (7, .int (nI (by1 f p1))), (8, .int (nI (moN (by1 f p1)))), (9, .int (nI i))], [.int (nI p1), .ref m0, .int (((nI (by1 f p1)) &&& 31) <<< (6 &&& 31)), .int (nI l.length), .ref (q 2)], M1)) rfl rfl rfl ?_
              refine ps_st (S' := (182, [(4, .int (nI (l.length + 1))), (0, .ref m0), (1, .int (nI j)), (5, .int (nI p1)), (6, .int (nI (p + m))), (7, .int (nI (by1 f p1))), (8, .int (nI (moN (by1 f p1)))), (9, .int (nI i))], [.int 1, .int (nI p1), .ref m0, .int (((nI (by1 f p1)) &&& 31) <<< (6 &&& 31)), .int (nI l.length), .ref (q 2)], M1)) rfl rfl rfl ?_
              refine ps_st (S' := (183, [(4, .int (nI (l.length + 1))), (0, .ref m0), (1, .int (nI j)), (5, .int (nI p1)), (6, .int (nI (p + m))), (7, .int (nI (by1 f p1))), (8, .int (nI (moN (by1 f p1)))), (9, .int (nI i))], [.int ((nI p1) + 1), .ref m0, .int (((nI (by1 f p1)) &&& 31) <<< (6 &&& 31)), .int (nI l.length), .ref (q 2)], M1)) rfl rfl rfl ?_
              rw [nI_add1 (p := p1) (k := 1) (x := 1) rfl (by omega)]
              show pl _ _ _ (_, [(4, .int (nI (l.length + 1))), (0, .ref m0), (1, .int (nI j)), (5, .int (nI p1)), (6, .int (nI (p + m))), (7, .int (nI (by1 f p1))), (8, .int (nI (moN (by1 f p1)))), (9, .int (nI i))], [.int (nI (p1 + 1)), .ref m0, .int (((nI (by1 f p1)) &&& 31) <<< (6 &&& 31)), .int (nI l.length), .ref (q 2)], M1) _
              refine pl_call (a := [.ref m0, .int (nI (p1 + 1))]) (rest := [.int (((nI (by1 f p1)) &&& 31) <<< (6 &&& 31)), .int (nI l.length), .ref (q 2)]) rfl rfl rfl (rd_u1 (n := n) (f := f) (p := (p1 + 1)) hR1 hF1 (by omega)) (fun v93 M94 q95 => ?_)
              obtain ⟨rfl, rfl⟩ := q95
              show pl _ _ _ (186, [(4, .int (nI (l.length + 1))), (0, .ref m0), (1, .int (nI j)), (5, .int (nI p1)), (6, .int (nI (p + m))), (7, .int (nI (by1 f p1))), (8, .int (nI (moN (by1 f p1)))), (9, .int (nI i))], [.int (nI (by1 f (p1 + 1))), .int (((nI (by1 f p1)) &&& 31) <<< (6 &&& 31)), .int (nI l.length), .ref (q 2)], M1) _
              have hu_183 := by1_lt f (p1 + 1)
              refine ps_st (S' := (188, [(4, .int (nI (l.length + 1))), (0, .ref m0), (1, .int (nI j)), (5, .int (nI p1)), (6, .int (nI (p + m))), (7, .int (nI (by1 f p1))), (8, .int (nI (moN (by1 f p1)))), (9, .int (nI i))], [.int 63, .int (nI (by1 f (p1 + 1))), .int (((nI (by1 f p1)) &&& 31) <<< (6 &&& 31)), .int (nI l.length), .ref (q 2)], M1)) rfl rfl rfl ?_
              refine ps_st (S' := (189, [(4, .int (nI (l.length + 1))), (0, .ref m0), (1, .int (nI j)), (5, .int (nI p1)), (6, .int (nI (p + m))), (7, .int (nI (by1 f p1))), (8, .int (nI (moN (by1 f p1)))), (9, .int (nI i))], [.int ((nI (by1 f (p1 + 1))) &&& 63), .int (((nI (by1 f p1)) &&& 31) <<< (6 &&& 31)), .int (nI l.length), .ref (q 2)], M1)) rfl rfl rfl ?_
              refine ps_st (S' := (190, [(4, .int (nI (l.length + 1))), (0, .ref m0), (1, .int (nI j)), (5, .int (nI p1)), (6, .int (nI (p + m))), (7, .int (nI (by1 f p1))), (8, .int (nI (moN (by1 f p1)))), (9, .int (nI i))], [.int ((((nI (by1 f p1)) &&& 31) <<< (6 &&& 31)) ||| ((nI (by1 f (p1 + 1))) &&& 63)), .int (nI l.length), .ref (q 2)], M1)) rfl rfl rfl ?_
              refine ps_st (S' := (228, [(0, .ref m0), (1, .int (nI j)), (4, .int (nI (l.length + 1))), (5, .int (nI p1)), (6, .int (nI (p + m))), (8, .int (nI (moN (by1 f p1))))], [.int ((((nI (by1 f p1)) &&& 31) <<< (6 &&& 31)) ||| ((nI (by1 f (p1 + 1))) &&& 63)), .int (nI l.length), .ref (q 2)], M1)) rfl rfl rfl ?_
              have hm9 : moN (by1 f p1) + 1 = 2 := by omega
              have hu8 := u8n_eq f p1 2
              refine pl_top (x := ((((nI (by1 f p1)) &&& 31) <<< (6 &&& 31)) ||| ((nI (by1 f (p1 + 1))) &&& 63))) (y := (nI (u8n f p1 2))) (hu8.1) ?_
              refine ps_st (S' := (229, [(0, .ref m0), (1, .int (nI j)), (4, .int (nI (l.length + 1))), (5, .int (nI p1)), (6, .int (nI (p + m))), (8, .int (nI (moN (by1 f p1))))], [.int (((nI (u8n f p1 2)).toUInt32 % 65536).toInt32), .int (nI l.length), .ref (q 2)], M1)) rfl rfl rfl ?_
              refine pl_top (x := (((nI (u8n f p1 2)).toUInt32 % 65536).toInt32)) (y := (nI (u8n f p1 2))) (i2c_nI hu8.2) ?_
              refine pr_st (a := 2) (j := l.length) rfl hR1 rfl (by omega) (fun M96 R97 i1_229 hR98 hS99 => ?_)
              have hF_100 := hF1.mono (fun _ _ => rfl) (rRx hS99 (by decide))
              have hY_101 := hY1.mono (fun _ _ => rfl) (rRx hS99 (by decide))
              have hK_102 := hK1.mono (fun _ _ => rfl) (rRx hS99 (by decide))
              have hER103 := hER1.st hS99 (by decide)
              show pl _ _ _ (230, [(0, .ref m0), (1, .int (nI j)), (4, .int (nI (l.length + 1))), (5, .int (nI p1)), (6, .int (nI (p + m))), (8, .int (nI (moN (by1 f p1))))], [], M96) _
              have hU_104 := hU1.snocL hS99 hu8.2
              rw [show l.length + 1 = (l ++ [u8n f p1 2]).length by simp] at hU_104
              rw [show nI (l.length + 1) = nI (l ++ [u8n f p1 2]).length from congrArg nI (by simp)]
              show pl _ _ _ (230, [(0, .ref m0), (1, .int (nI j)), (4, .int (nI (l ++ [u8n f p1 2]).length)), (5, .int (nI p1)), (6, .int (nI (p + m))), (8, .int (nI (moN (by1 f p1))))], [], M96) _
              refine ps_st (S' := (232, [(0, .ref m0), (1, .int (nI j)), (4, .int (nI (l ++ [u8n f p1 2]).length)), (5, .int (nI p1)), (6, .int (nI (p + m))), (8, .int (nI (moN (by1 f p1))))], [.int (nI p1)], M96)) rfl rfl rfl ?_
              refine ps_st (S' := (234, [(0, .ref m0), (1, .int (nI j)), (4, .int (nI (l ++ [u8n f p1 2]).length)), (5, .int (nI p1)), (6, .int (nI (p + m))), (8, .int (nI (moN (by1 f p1))))], [.int (nI (moN (by1 f p1))), .int (nI p1)], M96)) rfl rfl rfl ?_
              refine ps_st (S' := (235, [(0, .ref m0), (1, .int (nI j)), (4, .int (nI (l ++ [u8n f p1 2]).length)), (5, .int (nI p1)), (6, .int (nI (p + m))), (8, .int (nI (moN (by1 f p1))))], [.int 1, .int (nI (moN (by1 f p1))), .int (nI p1)], M96)) rfl rfl rfl ?_
              refine ps_st (S' := (236, [(0, .ref m0), (1, .int (nI j)), (4, .int (nI (l ++ [u8n f p1 2]).length)), (5, .int (nI p1)), (6, .int (nI (p + m))), (8, .int (nI (moN (by1 f p1))))], [.int ((nI (moN (by1 f p1))) + 1), .int (nI p1)], M96)) rfl rfl rfl ?_
              rw [nI_add1 (p := moN (by1 f p1)) (k := 1) (x := 1) rfl (by omega)]
              show pl _ _ _ (_, [(0, .ref m0), (1, .int (nI j)), (4, .int (nI (l ++ [u8n f p1 2]).length)), (5, .int (nI p1)), (6, .int (nI (p + m))), (8, .int (nI (moN (by1 f p1))))], [.int (nI (moN (by1 f p1) + 1)), .int (nI p1)], M96) _
              refine ps_st (S' := (237, [(0, .ref m0), (1, .int (nI j)), (4, .int (nI (l ++ [u8n f p1 2]).length)), (5, .int (nI p1)), (6, .int (nI (p + m))), (8, .int (nI (moN (by1 f p1))))], [.int ((nI p1) + (nI (moN (by1 f p1) + 1)))], M96)) rfl rfl rfl ?_
              rw [nI_add1 (p := p1) (k := moN (by1 f p1) + 1) (x := (nI (moN (by1 f p1) + 1))) rfl (by omega)]
              rw [show nI (p1 + (moN (by1 f p1) + 1)) = nI (p1 + moN (by1 f p1) + 1) from congrArg nI (by omega)]
              show pl _ _ _ (_, [(0, .ref m0), (1, .int (nI j)), (4, .int (nI (l ++ [u8n f p1 2]).length)), (5, .int (nI p1)), (6, .int (nI (p + m))), (8, .int (nI (moN (by1 f p1))))], [.int (nI (p1 + moN (by1 f p1) + 1))], M96) _
              refine pl_top (x := (nI (p1 + moN (by1 f p1) + 1))) (y := (nI (p1 + (moN (by1 f p1) + 1)))) (congrArg nI (by omega)) ?_
              refine ps_st (S' := (239, [(5, .int (nI (p1 + (moN (by1 f p1) + 1)))), (0, .ref m0), (1, .int (nI j)), (4, .int (nI (l ++ [u8n f p1 2]).length)), (6, .int (nI (p + m))), (8, .int (nI (moN (by1 f p1))))], [], M96)) rfl rfl rfl ?_
              refine ps_st (S' := (11, [(0, .ref m0), (1, .int (nI j)), (4, .int (nI (l ++ [u8n f p1 2]).length)), (5, .int (nI (p1 + (moN (by1 f p1) + 1)))), (6, .int (nI (p + m)))], [], M96)) rfl rfl rfl ?_
              have hk9 := u8k_ok (e := p + m) hg (fun j a b => hok j a (by omega))
              have hk10 := u8k_le (f := f) (e := p + m) hlt
              rw [hk9] at hk10
              exact ih.1 (p1 + (moN (by1 f p1) + 1)) (l ++ [u8n f p1 2]) M96 I1 R97 hR98 hEI1 hER103 hF_100 hY_101 hU_104 hK_102 (by rw [List.length_append]; show p ≤ _ ∧ _ ∧ l.length + 1 + _ ≤ m; omega) (by
                  rw [← hs, s_text_step (p := p1) (l := l) (by omega) (by omega), hk9, hm9])
          · have c_156 : ¬ (¬ (nI (moN (by1 f p1))) = 0) := of_decide_eq_false c_156
            have n_156 : moN (by1 f p1) = 0 := (eq_nI (p := moN (by1 f p1)) (n := 0) (by omega) (by decide)).mp (Decidable.not_not.mp c_156)
            refine ps_st (S' := (161, [(4, .int (nI (l.length + 1))), (0, .ref m0), (1, .int (nI j)), (5, .int (nI p1)), (6, .int (nI (p + m))), (7, .int (nI (by1 f p1))), (8, .int (nI (moN (by1 f p1)))), (9, .int (nI i))], [.int (nI (by1 f p1)), .int (nI l.length), .ref (q 2)], M1)) rfl rfl rfl ?_
            refine ps_st (S' := (228, [(0, .ref m0), (1, .int (nI j)), (4, .int (nI (l.length + 1))), (5, .int (nI p1)), (6, .int (nI (p + m))), (8, .int (nI (moN (by1 f p1))))], [.int (nI (by1 f p1)), .int (nI l.length), .ref (q 2)], M1)) rfl rfl rfl ?_
            have hm9 : moN (by1 f p1) + 1 = 1 := by omega
            have hu8 := u8n_eq f p1 1
            refine pl_top (x := (nI (by1 f p1))) (y := (nI (u8n f p1 1))) (hu8.1) ?_
            refine ps_st (S' := (229, [(0, .ref m0), (1, .int (nI j)), (4, .int (nI (l.length + 1))), (5, .int (nI p1)), (6, .int (nI (p + m))), (8, .int (nI (moN (by1 f p1))))], [.int (((nI (u8n f p1 1)).toUInt32 % 65536).toInt32), .int (nI l.length), .ref (q 2)], M1)) rfl rfl rfl ?_
            refine pl_top (x := (((nI (u8n f p1 1)).toUInt32 % 65536).toInt32)) (y := (nI (u8n f p1 1))) (i2c_nI hu8.2) ?_
            refine pr_st (a := 2) (j := l.length) rfl hR1 rfl (by omega) (fun M105 R106 i1_229 hR107 hS108 => ?_)
            have hF_109 := hF1.mono (fun _ _ => rfl) (rRx hS108 (by decide))
            have hY_110 := hY1.mono (fun _ _ => rfl) (rRx hS108 (by decide))
            have hK_111 := hK1.mono (fun _ _ => rfl) (rRx hS108 (by decide))
            have hER112 := hER1.st hS108 (by decide)
            show pl _ _ _ (230, [(0, .ref m0), (1, .int (nI j)), (4, .int (nI (l.length + 1))), (5, .int (nI p1)), (6, .int (nI (p + m))), (8, .int (nI (moN (by1 f p1))))], [], M105) _
            have hU_113 := hU1.snocL hS108 hu8.2
            rw [show l.length + 1 = (l ++ [u8n f p1 1]).length by simp] at hU_113
            rw [show nI (l.length + 1) = nI (l ++ [u8n f p1 1]).length from congrArg nI (by simp)]
            show pl _ _ _ (230, [(0, .ref m0), (1, .int (nI j)), (4, .int (nI (l ++ [u8n f p1 1]).length)), (5, .int (nI p1)), (6, .int (nI (p + m))), (8, .int (nI (moN (by1 f p1))))], [], M105) _
            refine ps_st (S' := (232, [(0, .ref m0), (1, .int (nI j)), (4, .int (nI (l ++ [u8n f p1 1]).length)), (5, .int (nI p1)), (6, .int (nI (p + m))), (8, .int (nI (moN (by1 f p1))))], [.int (nI p1)], M105)) rfl rfl rfl ?_
            refine ps_st (S' := (234, [(0, .ref m0), (1, .int (nI j)), (4, .int (nI (l ++ [u8n f p1 1]).length)), (5, .int (nI p1)), (6, .int (nI (p + m))), (8, .int (nI (moN (by1 f p1))))], [.int (nI (moN (by1 f p1))), .int (nI p1)], M105)) rfl rfl rfl ?_
            refine ps_st (S' := (235, [(0, .ref m0), (1, .int (nI j)), (4, .int (nI (l ++ [u8n f p1 1]).length)), (5, .int (nI p1)), (6, .int (nI (p + m))), (8, .int (nI (moN (by1 f p1))))], [.int 1, .int (nI (moN (by1 f p1))), .int (nI p1)], M105)) rfl rfl rfl ?_
            refine ps_st (S' := (236, [(0, .ref m0), (1, .int (nI j)), (4, .int (nI (l ++ [u8n f p1 1]).length)), (5, .int (nI p1)), (6, .int (nI (p + m))), (8, .int (nI (moN (by1 f p1))))], [.int ((nI (moN (by1 f p1))) + 1), .int (nI p1)], M105)) rfl rfl rfl ?_
            rw [nI_add1 (p := moN (by1 f p1)) (k := 1) (x := 1) rfl (by omega)]
            show pl _ _ _ (_, [(0, .ref m0), (1, .int (nI j)), (4, .int (nI (l ++ [u8n f p1 1]).length)), (5, .int (nI p1)), (6, .int (nI (p + m))), (8, .int (nI (moN (by1 f p1))))], [.int (nI (moN (by1 f p1) + 1)), .int (nI p1)], M105) _
            refine ps_st (S' := (237, [(0, .ref m0), (1, .int (nI j)), (4, .int (nI (l ++ [u8n f p1 1]).length)), (5, .int (nI p1)), (6, .int (nI (p + m))), (8, .int (nI (moN (by1 f p1))))], [.int ((nI p1) + (nI (moN (by1 f p1) + 1)))], M105)) rfl rfl rfl ?_
            rw [nI_add1 (p := p1) (k := moN (by1 f p1) + 1) (x := (nI (moN (by1 f p1) + 1))) rfl (by omega)]
            rw [show nI (p1 + (moN (by1 f p1) + 1)) = nI (p1 + moN (by1 f p1) + 1) from congrArg nI (by omega)]
            show pl _ _ _ (_, [(0, .ref m0), (1, .int (nI j)), (4, .int (nI (l ++ [u8n f p1 1]).length)), (5, .int (nI p1)), (6, .int (nI (p + m))), (8, .int (nI (moN (by1 f p1))))], [.int (nI (p1 + moN (by1 f p1) + 1))], M105) _
            refine pl_top (x := (nI (p1 + moN (by1 f p1) + 1))) (y := (nI (p1 + (moN (by1 f p1) + 1)))) (congrArg nI (by omega)) ?_
            refine ps_st (S' := (239, [(5, .int (nI (p1 + (moN (by1 f p1) + 1)))), (0, .ref m0), (1, .int (nI j)), (4, .int (nI (l ++ [u8n f p1 1]).length)), (6, .int (nI (p + m))), (8, .int (nI (moN (by1 f p1))))], [], M105)) rfl rfl rfl ?_
            refine ps_st (S' := (11, [(0, .ref m0), (1, .int (nI j)), (4, .int (nI (l ++ [u8n f p1 1]).length)), (5, .int (nI (p1 + (moN (by1 f p1) + 1)))), (6, .int (nI (p + m)))], [], M105)) rfl rfl rfl ?_
            have hk9 := u8k_ok (e := p + m) hg (fun j a b => hok j a (by omega))
            have hk10 := u8k_le (f := f) (e := p + m) hlt
            rw [hk9] at hk10
            exact ih.1 (p1 + (moN (by1 f p1) + 1)) (l ++ [u8n f p1 1]) M105 I1 R106 hR107 hEI1 hER112 hF_109 hY_110 hU_113 hK_111 (by rw [List.length_append]; show p ≤ _ ∧ _ ∧ l.length + 1 + _ ≤ m; omega) (by
                rw [← hs, s_text_step (p := p1) (l := l) (by omega) (by omega), hk9, hm9])
        · have c_98 : ¬ ((nI (moN (by1 f p1))) < (nI i)) := of_decide_eq_false c_98
          have n_98 : ¬ (moN (by1 f p1) < i) := fun h9 => c_98 ((lt_nI (p := moN (by1 f p1)) (n := i) (by omega) (by omega)).mpr h9)
          refine ps_st (S' := (103, [(0, .ref m0), (1, .int (nI j)), (4, .int (nI l.length)), (5, .int (nI p1)), (6, .int (nI (p + m))), (7, .int (nI (by1 f p1))), (8, .int (nI (moN (by1 f p1)))), (9, .int (nI i))], [.int (nI p1)], M1)) rfl rfl rfl ?_
          refine ps_st (S' := (105, [(0, .ref m0), (1, .int (nI j)), (4, .int (nI l.length)), (5, .int (nI p1)), (6, .int (nI (p + m))), (7, .int (nI (by1 f p1))), (8, .int (nI (moN (by1 f p1)))), (9, .int (nI i))], [.int (nI i), .int (nI p1)], M1)) rfl rfl rfl ?_
          refine ps_st (S' := (106, [(0, .ref m0), (1, .int (nI j)), (4, .int (nI l.length)), (5, .int (nI p1)), (6, .int (nI (p + m))), (7, .int (nI (by1 f p1))), (8, .int (nI (moN (by1 f p1)))), (9, .int (nI i))], [.int ((nI p1) + (nI i))], M1)) rfl rfl rfl ?_
          rw [nI_add1 (p := p1) (k := i) (x := (nI i)) rfl (by omega)]
          show pl _ _ _ (_, [(0, .ref m0), (1, .int (nI j)), (4, .int (nI l.length)), (5, .int (nI p1)), (6, .int (nI (p + m))), (7, .int (nI (by1 f p1))), (8, .int (nI (moN (by1 f p1)))), (9, .int (nI i))], [.int (nI (p1 + i))], M1) _
          refine ps_st (S' := (108, [(0, .ref m0), (1, .int (nI j)), (4, .int (nI l.length)), (5, .int (nI p1)), (6, .int (nI (p + m))), (7, .int (nI (by1 f p1))), (8, .int (nI (moN (by1 f p1)))), (9, .int (nI i))], [.int (nI (p + m)), .int (nI (p1 + i))], M1)) rfl rfl rfl ?_
          refine ps_if2 (S1 := (130, [(0, .ref m0), (5, .int (nI p1))], [], M1)) (S2 := (111, [(0, .ref m0), (1, .int (nI j)), (4, .int (nI l.length)), (5, .int (nI p1)), (6, .int (nI (p + m))), (7, .int (nI (by1 f p1))), (8, .int (nI (moN (by1 f p1)))), (9, .int (nI i))], [], M1)) rfl rfl rfl (fun c_108 => ?_) (fun c_108 => ?_)
          · have c_108 : (nI (p + m)) ≤ (nI (p1 + i)) := of_decide_eq_true c_108
            have n_108 : p + m ≤ p1 + i := (le_nI (p := p + m) (n := p1 + i) (by omega) (by omega)).mp c_108
            refine ps_st (S' := (131, [(0, .ref m0), (5, .int (nI p1))], [.ref m0], M1)) rfl rfl rfl ?_
            refine ps_st (S' := (133, [(0, .ref m0), (5, .int (nI p1))], [.int 6, .ref m0], M1)) rfl rfl rfl ?_
            refine ps_st (S' := (135, [(0, .ref m0), (5, .int (nI p1))], [.int (nI p1), .int 6, .ref m0], M1)) rfl rfl rfl ?_
            refine pl_call (a := [.ref m0, .int 6, .int (nI p1)]) (rest := []) rfl rfl rfl (rd_wrong (x1 := 6) (x2 := (nI p1)) hR1) (fun v114 M115 q116 => ?_)
            obtain ⟨I117, R118, rfl, hR119, hI120, hX121, hi122, hi123⟩ := q116
            have hF_124 := hF1.mono (cIx hI120 (by decide)) (cRx hX121 (by decide))
            have hY_125 := hY1.mono (cIx hI120 (by decide)) (cRx hX121 (by decide))
            have hU_126 := hU1.mono (cIx hI120 (by decide)) (cRx hX121 (by decide))
            have hK_127 := hK1.mono (cIx hI120 (by decide)) (cRx hX121 (by decide))
            have hEI128 := hEI1.tr hI120 (by decide)
            have hER129 := hER1.tr hX121 (by decide)
            show pl _ _ _ (138, [(0, .ref m0), (5, .int (nI p1))], [.int 0], M115) _
            exact ps_ret rfl rfl (Or.inr ⟨p1, I117, R118, by
                rw [← hs]
                exact s_text_bad (by omega) (u8k_bad hg (i := i) (by omega) hok (by omega)), rfl, hR119, hEI128, hER129, hi122, hi123⟩)
          · have c_108 : ¬ ((nI (p + m)) ≤ (nI (p1 + i))) := of_decide_eq_false c_108
            have n_108 : ¬ (p + m ≤ p1 + i) := fun h9 => c_108 ((le_nI (p := p + m) (n := p1 + i) (by omega) (by omega)).mpr h9)
            refine ps_st (S' := (112, [(0, .ref m0), (1, .int (nI j)), (4, .int (nI l.length)), (5, .int (nI p1)), (6, .int (nI (p + m))), (7, .int (nI (by1 f p1))), (8, .int (nI (moN (by1 f p1)))), (9, .int (nI i))], [.ref m0], M1)) rfl rfl rfl ?_
            refine ps_st (S' := (114, [(0, .ref m0), (1, .int (nI j)), (4, .int (nI l.length)), (5, .int (nI p1)), (6, .int (nI (p + m))), (7, .int (nI (by1 f p1))), (8, .int (nI (moN (by1 f p1)))), (9, .int (nI i))], [.int (nI p1), .ref m0], M1)) rfl rfl rfl ?_
            refine ps_st (S' := (116, [(0, .ref m0), (1, .int (nI j)), (4, .int (nI l.length)), (5, .int (nI p1)), (6, .int (nI (p + m))), (7, .int (nI (by1 f p1))), (8, .int (nI (moN (by1 f p1)))), (9, .int (nI i))], [.int (nI i), .int (nI p1), .ref m0], M1)) rfl rfl rfl ?_
            refine ps_st (S' := (117, [(0, .ref m0), (1, .int (nI j)), (4, .int (nI l.length)), (5, .int (nI p1)), (6, .int (nI (p + m))), (7, .int (nI (by1 f p1))), (8, .int (nI (moN (by1 f p1)))), (9, .int (nI i))], [.int ((nI p1) + (nI i)), .ref m0], M1)) rfl rfl rfl ?_
            rw [nI_add1 (p := p1) (k := i) (x := (nI i)) rfl (by omega)]
            show pl _ _ _ (_, [(0, .ref m0), (1, .int (nI j)), (4, .int (nI l.length)), (5, .int (nI p1)), (6, .int (nI (p + m))), (7, .int (nI (by1 f p1))), (8, .int (nI (moN (by1 f p1)))), (9, .int (nI i))], [.int (nI (p1 + i)), .ref m0], M1) _
            refine pl_call (a := [.ref m0, .int (nI (p1 + i))]) (rest := []) rfl rfl rfl (rd_u1 (n := n) (f := f) (p := (p1 + i)) hR1 hF1 (by omega)) (fun v130 M131 q132 => ?_)
            obtain ⟨rfl, rfl⟩ := q132
            show pl _ _ _ (120, [(0, .ref m0), (1, .int (nI j)), (4, .int (nI l.length)), (5, .int (nI p1)), (6, .int (nI (p + m))), (7, .int (nI (by1 f p1))), (8, .int (nI (moN (by1 f p1)))), (9, .int (nI i))], [.int (nI (by1 f (p1 + i)))], M1) _
            have hu_117 := by1_lt f (p1 + i)
            refine ps_st (S' := (123, [(0, .ref m0), (1, .int (nI j)), (4, .int (nI l.length)), (5, .int (nI p1)), (6, .int (nI (p + m))), (7, .int (nI (by1 f p1))), (8, .int (nI (moN (by1 f p1)))), (9, .int (nI i))], [.int 192, .int (nI (by1 f (p1 + i)))], M1)) rfl rfl rfl ?_
            refine ps_st (S' := (124, [(0, .ref m0), (1, .int (nI j)), (4, .int (nI l.length)), (5, .int (nI p1)), (6, .int (nI (p + m))), (7, .int (nI (by1 f p1))), (8, .int (nI (moN (by1 f p1)))), (9, .int (nI i))], [.int ((nI (by1 f (p1 + i))) &&& 192)], M1)) rfl rfl rfl ?_
            rw [nI_an (p := by1 f (p1 + i)) (k := 192) (x := 192) rfl]
            show pl _ _ _ (_, [(0, .ref m0), (1, .int (nI j)), (4, .int (nI l.length)), (5, .int (nI p1)), (6, .int (nI (p + m))), (7, .int (nI (by1 f p1))), (8, .int (nI (moN (by1 f p1)))), (9, .int (nI i))], [.int (nI (aN (by1 f (p1 + i)) 192))], M1) _
            refine ps_st (S' := (127, [(0, .ref m0), (1, .int (nI j)), (4, .int (nI l.length)), (5, .int (nI p1)), (6, .int (nI (p + m))), (7, .int (nI (by1 f p1))), (8, .int (nI (moN (by1 f p1)))), (9, .int (nI i))], [.int 128, .int (nI (aN (by1 f (p1 + i)) 192))], M1)) rfl rfl rfl ?_
            refine ps_if2 (S1 := (139, [(0, .ref m0), (1, .int (nI j)), (4, .int (nI l.length)), (5, .int (nI p1)), (6, .int (nI (p + m))), (7, .int (nI (by1 f p1))), (8, .int (nI (moN (by1 f p1)))), (9, .int (nI i))], [], M1)) (S2 := (130, [(0, .ref m0), (5, .int (nI p1))], [], M1)) rfl rfl rfl (fun c_127 => ?_) (fun c_127 => ?_)
            · have c_127 : (nI (aN (by1 f (p1 + i)) 192)) = 128 := of_decide_eq_true c_127
              have n_127 : aN (by1 f (p1 + i)) 192 = 128 := (eq_nI (p := aN (by1 f (p1 + i)) 192) (n := 128) (Nat.lt_of_le_of_lt (an_le _ _) (by decide)) (by decide)).mp c_127
              refine ps_st (S' := (142, [(9, .int ((nI i) + 1)), (0, .ref m0), (1, .int (nI j)), (4, .int (nI l.length)), (5, .int (nI p1)), (6, .int (nI (p + m))), (7, .int (nI (by1 f p1))), (8, .int (nI (moN (by1 f p1))))], [], M1)) rfl rfl rfl ?_
              rw [nI_add1 (p := i) (k := 1) (x := 1) rfl (by omega)]
              show pl _ _ _ (_, [(9, .int (nI (i + 1))), (0, .ref m0), (1, .int (nI j)), (4, .int (nI l.length)), (5, .int (nI p1)), (6, .int (nI (p + m))), (7, .int (nI (by1 f p1))), (8, .int (nI (moN (by1 f p1))))], [], M1) _
              refine ps_st (S' := (94, [(0, .ref m0), (1, .int (nI j)), (4, .int (nI l.length)), (5, .int (nI p1)), (6, .int (nI (p + m))), (7, .int (nI (by1 f p1))), (8, .int (nI (moN (by1 f p1)))), (9, .int (nI (i + 1)))], [], M1)) rfl rfl rfl ?_
              exact ih.2 (p1) (l) (i + 1) M1 I1 R1 hR1 hEI1 hER1 hF1 hY1 hU1 hK1 (hp1) (hs) (hlt) (hg) (by omega) (by
                  intro j a b
                  by_cases e : j = i
                  · rw [e]; exact ⟨by omega, by omega⟩
                  · exact hok j a (by omega))
            · have c_127 : ¬ ((nI (aN (by1 f (p1 + i)) 192)) = 128) := of_decide_eq_false c_127
              have n_127 : ¬ (aN (by1 f (p1 + i)) 192 = 128) := fun h9 => c_127 ((eq_nI (p := aN (by1 f (p1 + i)) 192) (n := 128) (Nat.lt_of_le_of_lt (an_le _ _) (by decide)) (by decide)).mpr h9)
              refine ps_st (S' := (131, [(0, .ref m0), (5, .int (nI p1))], [.ref m0], M1)) rfl rfl rfl ?_
              refine ps_st (S' := (133, [(0, .ref m0), (5, .int (nI p1))], [.int 6, .ref m0], M1)) rfl rfl rfl ?_
              refine ps_st (S' := (135, [(0, .ref m0), (5, .int (nI p1))], [.int (nI p1), .int 6, .ref m0], M1)) rfl rfl rfl ?_
              refine pl_call (a := [.ref m0, .int 6, .int (nI p1)]) (rest := []) rfl rfl rfl (rd_wrong (x1 := 6) (x2 := (nI p1)) hR1) (fun v133 M134 q135 => ?_)
              obtain ⟨I136, R137, rfl, hR138, hI139, hX140, hi141, hi142⟩ := q135
              have hF_143 := hF1.mono (cIx hI139 (by decide)) (cRx hX140 (by decide))
              have hY_144 := hY1.mono (cIx hI139 (by decide)) (cRx hX140 (by decide))
              have hU_145 := hU1.mono (cIx hI139 (by decide)) (cRx hX140 (by decide))
              have hK_146 := hK1.mono (cIx hI139 (by decide)) (cRx hX140 (by decide))
              have hEI147 := hEI1.tr hI139 (by decide)
              have hER148 := hER1.tr hX140 (by decide)
              show pl _ _ _ (138, [(0, .ref m0), (5, .int (nI p1))], [.int 0], M134) _
              exact ps_ret rfl rfl (Or.inr ⟨p1, I136, R137, by
                  rw [← hs]
                  exact s_text_bad (by omega) (u8k_bad hg (i := i) (by omega) hok (by omega)), rfl, hR138, hEI147, hER148, hi141, hi142⟩)
  refine ps_st (S' := (1, [(0, .ref m0), (1, .int (nI j)), (2, .int (nI p)), (3, .int (nI m))], [.int 0], M)) rfl rfl rfl ?_
  refine ps_st (S' := (3, [(4, .int 0), (0, .ref m0), (1, .int (nI j)), (2, .int (nI p)), (3, .int (nI m))], [], M)) rfl rfl rfl ?_
  refine ps_st (S' := (4, [(4, .int 0), (0, .ref m0), (1, .int (nI j)), (2, .int (nI p)), (3, .int (nI m))], [.int (nI p)], M)) rfl rfl rfl ?_
  refine ps_st (S' := (6, [(5, .int (nI p)), (4, .int 0), (0, .ref m0), (1, .int (nI j)), (2, .int (nI p)), (3, .int (nI m))], [], M)) rfl rfl rfl ?_
  refine ps_st (S' := (7, [(5, .int (nI p)), (4, .int 0), (0, .ref m0), (1, .int (nI j)), (2, .int (nI p)), (3, .int (nI m))], [.int (nI p)], M)) rfl rfl rfl ?_
  refine ps_st (S' := (8, [(5, .int (nI p)), (4, .int 0), (0, .ref m0), (1, .int (nI j)), (2, .int (nI p)), (3, .int (nI m))], [.int (nI m), .int (nI p)], M)) rfl rfl rfl ?_
  refine ps_st (S' := (9, [(5, .int (nI p)), (4, .int 0), (0, .ref m0), (1, .int (nI j)), (2, .int (nI p)), (3, .int (nI m))], [.int ((nI p) + (nI m))], M)) rfl rfl rfl ?_
  rw [nI_add1 (p := p) (k := m) (x := (nI m)) rfl (by omega)]
  show pl _ _ _ (_, [(5, .int (nI p)), (4, .int 0), (0, .ref m0), (1, .int (nI j)), (2, .int (nI p)), (3, .int (nI m))], [.int (nI (p + m))], M) _
  refine ps_st (S' := (11, [(0, .ref m0), (1, .int (nI j)), (4, .int 0), (5, .int (nI p)), (6, .int (nI (p + m)))], [], M)) rfl rfl rfl ?_
  exact (LL kf).1 (p) ([]) M I R hR hEI hER hF hY CUW.nil hK (by simp) (by
      rw [show p + m - p = m by omega])
