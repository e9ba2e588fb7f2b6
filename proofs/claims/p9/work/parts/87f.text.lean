/-! texts: names, types, descriptors (my own text) -/
section TXA
/-- where a class's name ends that begins at p0 (r: characters left, i: place, p: begin of the part) -/
def s_nm (c : Nat → Nat) : Nat → Nat → Nat → Option Nat
  | 0, i, p => if p < i then some i else none
  | r + 1, i, p => if c i = 59 then (if p < i then some i else none) else if c i = 46 ∨ c i = 91 ∨ (c i = 47 ∧ i = p) then none else s_nm c r (i + 1) (if c i = 47 then i + 1 else p)
def s_br (c : Nat → Nat) : Nat → Nat → Nat
  | 0, i => i
  | r + 1, i => if c i = 91 then s_br c r (i + 1) else i
theorem s_nm_le {c : Nat → Nat} : ∀ {r i p x : Nat}, s_nm c r i p = some x → i ≤ x ∧ x ≤ i + r := by
  intro r
  induction r with
  | zero =>
    intro i p x h
    unfold s_nm at h
    split at h
    · cases h; omega
    · cases h
  | succ r ih =>
    intro i p x h
    unfold s_nm at h
    split at h
    · split at h
      · cases h; omega
      · cases h
    · split at h
      · cases h
      · have := ih h
        omega
theorem s_br_le {c : Nat → Nat} : ∀ {r i : Nat}, i ≤ s_br c r i ∧ s_br c r i ≤ i + r := by
  intro r
  induction r with
  | zero => intro i; exact ⟨Nat.le_refl _, Nat.le_refl _⟩
  | succ r ih =>
    intro i
    unfold s_br
    split
    · have := ih (i := i + 1)
      omega
    · omega
def prm (x : Nat) : Prop := x = 66 ∨ x = 67 ∨ x = 68 ∨ x = 70 ∨ x = 73 ∨ x = 74 ∨ x = 83 ∨ x = 90
/-- where the type ends that begins at i -/
def s_ty (c : Nat → Nat) (e i : Nat) : Option Nat :=
  if e ≤ s_br c (e - i) i ∨ 255 < s_br c (e - i) i - i then none else
  if c (s_br c (e - i) i) = 66 ∨ c (s_br c (e - i) i) = 67 ∨ c (s_br c (e - i) i) = 68 ∨ c (s_br c (e - i) i) = 70 ∨ c (s_br c (e - i) i) = 73 ∨ c (s_br c (e - i) i) = 74 ∨ c (s_br c (e - i) i) = 83 ∨ c (s_br c (e - i) i) = 90 then some (s_br c (e - i) i + 1) else
  if c (s_br c (e - i) i) = 76 then (match s_nm c (e - (s_br c (e - i) i + 1)) (s_br c (e - i) i + 1) (s_br c (e - i) i + 1) with
    | none => none
    | some x => if x < e then some (x + 1) else none) else none
theorem s_ty_le {c : Nat → Nat} {e i x : Nat} (h : s_ty c e i = some x) : i < x ∧ x ≤ e := by
  unfold s_ty at h
  have h1 := s_br_le (c := c) (r := e - i) (i := i)
  split at h
  · cases h
  · split at h
    · cases h
      omega
    · split at h
      · split at h
        · cases h
        · rename_i y hy
          have := s_nm_le hy
          split at h
          · cases h
            omega
          · cases h
      · cases h
def pW (x : Nat) : Nat := if x = 74 ∨ x = 68 then 2 else 1
theorem pW_le (x : Nat) : pW x ≤ 2 := by unfold pW; split <;> omega
/-- arguments from i on, w places so far (r: no fewer than the characters left) -/
def s_ar (c : Nat → Nat) (e : Nat) : Nat → Nat → Nat → Option (Nat × Nat)
  | 0, i, w => some (i, w)
  | r + 1, i, w => if w ≤ 255 ∧ i < e ∧ ¬ c i = 41 then (match s_ty c e i with
    | none => none
    | some i' => s_ar c e r i' (w + pW (c i))) else some (i, w)
theorem s_ar_0 {c : Nat → Nat} {e r i w : Nat} (h : ¬ (w ≤ 255 ∧ i < e ∧ ¬ c i = 41)) : s_ar c e r i w = some (i, w) := by
  cases r with
  | zero => rfl
  | succ r => unfold s_ar; rw [if_neg h]
theorem s_ar_fuel {c : Nat → Nat} {e : Nat} : ∀ {r r' i w : Nat}, e - i ≤ r → e - i ≤ r' → s_ar c e r i w = s_ar c e r' i w := by
  intro r
  induction r with
  | zero => intro r' i w h h'; rw [s_ar_0 (by omega), s_ar_0 (by omega)]
  | succ r ih =>
    intro r' i w h h'
    by_cases h1 : w ≤ 255 ∧ i < e ∧ ¬ c i = 41
    · cases r' with
      | zero => omega
      | succ r' =>
        unfold s_ar
        rw [if_pos h1, if_pos h1]
        cases ht : s_ty c e i with
        | none => rfl
        | some x =>
          have := s_ty_le ht
          exact ih (by omega) (by omega)
    · rw [s_ar_0 h1, s_ar_0 h1]
theorem s_ar_step {c : Nat → Nat} {e i w x : Nat} (h : w ≤ 255 ∧ i < e ∧ ¬ c i = 41) (ht : s_ty c e i = some x) : s_ar c e (e - i) i w = s_ar c e (e - x) x (w + pW (c i)) := by
  have := s_ty_le ht
  rw [show e - i = (e - i - 1) + 1 by omega]
  conv => lhs; unfold s_ar
  rw [if_pos h, ht]
  exact s_ar_fuel (by omega) (by omega)
theorem s_ar_bad {c : Nat → Nat} {e i w : Nat} (h : w ≤ 255 ∧ i < e ∧ ¬ c i = 41) (ht : s_ty c e i = none) : s_ar c e (e - i) i w = none := by
  rw [show e - i = (e - i - 1) + 1 by omega]
  unfold s_ar
  rw [if_pos h, ht]
/-- a method's descriptor behind its '(': its shape, 0 if it is none -/
def s_ms (c : Nat → Nat) (e i : Nat) : Nat := match s_ar c e (e - i) i 0 with
  | none => 0
  | some (k, w) => if e ≤ k + 1 ∨ 255 < w then 0 else if c (k + 1) = 86 ∧ k + 2 = e then 4096 + w else if s_ty c e (k + 1) = some e then 4096 + 1024 * pW (c (k + 1)) + w else 0
def s_sh (c : Nat → Nat) (e : Nat) : Nat := if e = 0 then 0 else if c 0 = 40 then s_ms c e 1 else if s_ty c e 0 = some e then pW (c 0) else 0
/-- a text's shape: 0 none, below 4096 a field's, from 4096 on a method's -/
def shN (l : List Nat) : Nat := s_sh (fun i => l.getD i 0) l.length
def angN (l : List Nat) : Nat := if 60 ∈ l ∨ 62 ∈ l then 1 else 0
def unqN (l : List Nat) : Nat := if l = [] ∨ 46 ∈ l ∨ 59 ∈ l ∨ 91 ∈ l ∨ 47 ∈ l then 0 else 1
/-- a text can be that of a Class entry -/
def clsN (l : List Nat) : Nat := if l.getD 0 0 = 91 then (if 0 < shN l ∧ shN l < 4096 then 1 else 0) else if s_nm (fun i => l.getD i 0) l.length 0 0 = some l.length then 1 else 0
end TXA
section TXB
variable {M : mi_H}
/-- the class's pool, as it was read and described: its rows -/
def VF (f : Nat → Int32) (n : Nat) (E : List (Nat × Nat)) (H m : Nat) (F : Nat → Nat → Int32) : Prop :=
  (∀ j, F 1 j = nI (tg f E j)) ∧ (∀ j, H ≤ j → tg f E j = 0) ∧ (∀ j p, lk E j = some p → F 2 j = nI p) ∧
  (∀ j, 7 ≤ tg f E j → F 3 j = nI (fi f E j) ∧ F 4 j = nI (se f E j)) ∧
  (∀ j, tg f E j = 1 → ∃ c, F 3 j = nI c ∧ F 4 j = nI (tX f n E j).length ∧ c + (tX f n E j).length ≤ m ∧ ∀ i, i < (tX f n E j).length → F 6 (c + i) = nI ((tX f n E j).getD i 0))
def VS (f : Nat → Int32) (n : Nat) (E : List (Nat × Nat)) (F : Nat → Nat → Int32) : Prop := ∀ j, tg f E j = 1 → F 5 j = shI (shN (tX f n E j))
def PV (g : xe_G) (f : Nat → Int32) (n N : Nat) (E : List (Nat × Nat)) (q : Nat) (M : mi_H) : Prop :=
  LT g M ∧ ∃ (H m : Nat) (qq : Nat → Nat) (F : Nat → Nat → Int32) (cc : Int32), PL M q (nI N) H m qq F cc ∧ txt H m F cc ∧ (q < M.2.1 ∧ ∀ i, 1 ≤ i → i ≤ 6 → qq i < M.2.1) ∧ (H ≤ 65536 ∧ m ≤ 65540 ∧ N < 65536 ∧ cc = nI (chL f n E)) ∧ VF f n E H m F ∧ VS f n E F
theorem LT.move {g : xe_G} {M' : mi_H} (h : LT g M) (hz : M.2.1 ≤ M'.2.1) (hm : ∀ z o, z < M.2.1 → M.1 z = some (.inr o) → 100 ≤ o.1 → M'.1 z = M.1 z) : LT g M' := by
  intro k hk
  obtain ⟨h1, k', fl, h2, h3, h4⟩ := h k hk
  exact ⟨by omega, k', fl, h2, (hm _ _ h1 h3 (by show 100 ≤ 100 + k'; omega)).trans h3, h4⟩
theorem PV.move {g : xe_G} {f : Nat → Int32} {n N q : Nat} {E : List (Nat × Nat)} {M' : mi_H} (h : PV g f n N E q M) (hz : M.2.1 ≤ M'.2.1) (hm : ∀ z, z < M.2.1 → (∀ ci l, M.1 z = some (ob ci l) → ci = 7 ∨ 100 ≤ ci) → (∀ o, M.1 z = some (.inr o) → o.1 = 7 ∨ 100 ≤ o.1) → M'.1 z = M.1 z) : PV g f n N E q M' := by
  obtain ⟨hL, H, m, qq, F, cc, ⟨a0, a1, a6⟩, hT, ⟨b0, b1⟩, h3⟩ := h
  have ha : ∀ {z n : Nat} {ty : FieldType} {F : Nat → Int32}, z < M.2.1 → M.1 z = some (ar ty n F) → M'.1 z = some (ar ty n F) := fun hl hc => (hm _ hl (fun ci l h9 => by rw [hc] at h9; cases h9) (fun o h9 => by rw [hc] at h9; cases h9)).trans hc
  have h7 : M'.1 q = M.1 q := hm q b0 (fun ci l h9 => by rw [a0] at h9; simp only [ob, Option.some.injEq, Sum.inr.injEq, Prod.mk.injEq] at h9; exact Or.inl h9.1.symm) (fun o h9 => by rw [a0] at h9; cases h9; exact Or.inl rfl)
  exact ⟨hL.move hz (fun z o hl hc ho => hm z hl (fun ci l h9 => by rw [hc] at h9; cases h9; exact Or.inr ho) (fun o' h9 => by rw [hc] at h9; cases h9; exact Or.inr ho)), H, m, qq, F, cc, ⟨h7.trans a0, fun i h1 h2 => ha (b1 i h1 (by omega)) (a1 i h1 h2), ha (b1 6 (by decide) (by decide)) a6⟩, hT, ⟨by omega, fun i h1 h2 => Nat.lt_of_lt_of_le (b1 i h1 h2) hz⟩, h3⟩
theorem PV.keep {g : xe_G} {f : Nat → Int32} {n N q : Nat} {E : List (Nat × Nat)} {M' : mi_H} {S : List Nat} (h : PV g f n N E q M) (hf : gm S M M') (hs : n7 S M) : PV g f n N E q M' :=
  h.move hf.2 (fun z hl h1 _ => hf.1 z hl (fun hz => by
    obtain ⟨ci, l, e, h2⟩ := hs z hz
    rcases h1 ci l e with h3 | h3 <;> omega))
theorem PV.put {g : xe_G} {f : Nat → Int32} {n N q a ci : Nat} {l : List Value} {E : List (Nat × Nat)} {M' : mi_H} (h : PV g f n N E q M) (ha : M.1 a = some (ob ci l)) (hc : ¬ ci = 7 ∧ ci < 100) (hf : ∀ z, z ≠ a → M'.1 z = M.1 z) (hz : M'.2 = M.2) : PV g f n N E q M' :=
  h.move (by rw [hz]; exact Nat.le_refl _) (fun z hl h1 _ => hf z (fun e => by
    subst e
    rcases h1 ci l ha with h3 | h3 <;> omega))
theorem PV.new {g : xe_G} {f : Nat → Int32} {n N q a : Nat} {E : List (Nat × Nat)} {M' : mi_H} (h : PV g f n N E q M) (ht : M.2.1 = a) (hf : ∀ z, z ≠ a → M'.1 z = M.1 z) (hz : M'.2.1 = a + 1) : PV g f n N E q M' :=
  h.move (by omega) (fun z hl _ _ => hf z (by omega))
theorem nI_rem {a k : Nat} {x : Int32} (hx : x.toInt = k) (hx2 : x = nI k) (hk : 0 < k) (ha : a < 1073741824) : nI a - nI a / x * x = nI (a % k) := by
  rw [ndiv_nI hx hk ha, hx2, nI_mul1 rfl rfl (Nat.lt_of_le_of_lt (Nat.div_mul_le_self a k) ha), nI_sub1 rfl (Nat.div_mul_le_self a k) ha]
  congr 1
  have := Nat.mod_add_div a k
  rw [Nat.mul_comm] at this
  omega
variable {f : Nat → Int32} {n H m j : Nat} {E : List (Nat × Nat)} {F : Nat → Nat → Int32}
theorem VF.tagOf (h : VF f n E H m F) (hH : H ≤ 65536) (hj : j < 65536) : sp_tagOf H m F (nI j) = nI (tg f E j) := by
  unfold sp_tagOf
  rw [if_neg (nI_n0 (by omega))]
  by_cases h1 : j < H
  · rw [if_pos ((lt_nI (by omega) (by omega)).mpr h1), nI_toNat (by omega), h.1]
  · rw [if_neg (fun h9 => h1 ((lt_nI (by omega) (by omega)).mp h9)), h.2.1 j (by omega)]
    rfl
theorem VF.tagPlace {p : Nat} (h : VF f n E H m F) (hH : H ≤ 65536) (hj : j < 65536) (hp : lk E j = some p) (ht : ¬ tg f E j = 0) : sp_tagPlace H m F (nI j) = nI p := by
  unfold sp_tagPlace
  have h1 : j < H := Nat.not_le.mp (fun h9 => ht (h.2.1 j h9))
  rw [if_neg (nI_n0 (by omega)), if_pos ((lt_nI (by omega) (by omega)).mpr h1), nI_toNat (by omega), h.2.2.1 j p hp]
theorem VF.firstIndex (h : VF f n E H m F) (hH : H ≤ 65536) (hj : j < 65536) : sp_firstIndex H m F (nI j) = nI (fi f E j) := by
  unfold sp_firstIndex
  have ht := tg_lt f E j
  rw [if_neg (nI_n0 (by omega))]
  by_cases h1 : H ≤ j
  · rw [if_pos ((le_nI (by omega) (by omega)).mpr h1), fi_no (by rw [h.2.1 j h1]; decide)]
    rfl
  · rw [if_neg (fun h9 => h1 ((le_nI (by omega) (by omega)).mp h9)), nI_toNat (by omega), h.1]
    by_cases h2 : 7 ≤ tg f E j
    · rw [if_pos (show (7 : Int32) ≤ nI (tg f E j) from (le_nI (p := 7) (by decide) (by omega)).mpr h2), (h.2.2.2.1 j h2).1]
    · rw [if_neg (show ¬ (7 : Int32) ≤ nI (tg f E j) from fun h9 => h2 ((le_nI (p := 7) (by decide) (by omega)).mp h9)), fi_no (by omega)]
      rfl
theorem VF.secondIndex (h : VF f n E H m F) (hH : H ≤ 65536) (hj : j < 65536) : sp_secondIndex H m F (nI j) = nI (se f E j) := by
  unfold sp_secondIndex
  have ht := tg_lt f E j
  rw [if_neg (nI_n0 (by omega))]
  by_cases h1 : H ≤ j
  · rw [if_pos ((le_nI (by omega) (by omega)).mpr h1), se_no (by rw [h.2.1 j h1]; decide)]
    rfl
  · rw [if_neg (fun h9 => h1 ((le_nI (by omega) (by omega)).mp h9)), nI_toNat (by omega), h.1]
    by_cases h2 : 7 ≤ tg f E j
    · rw [if_pos (show (7 : Int32) ≤ nI (tg f E j) from (le_nI (p := 7) (by decide) (by omega)).mpr h2), (h.2.2.2.1 j h2).2]
    · rw [if_neg (show ¬ (7 : Int32) ≤ nI (tg f E j) from fun h9 => h2 ((le_nI (p := 7) (by decide) (by omega)).mp h9)), se_no (by omega)]
      rfl
theorem tg1 (f : Nat → Int32) (E : List (Nat × Nat)) (j k : Nat) (hk : k < 1000) : nI (tg f E j) = nI k ↔ tg f E j = k := eq_nI (Nat.lt_trans (tg_lt f E j) (by decide)) (by omega)
theorem tgp {f : Nat → Int32} {E : List (Nat × Nat)} {j : Nat} (k : Nat) {x : Int32} {A B : Int32} (hx : x = nI k) (hk : k < 1000) (h : tg f E j = k) : (if ¬ nI (tg f E j) = x then A else B) = B := by
  subst hx
  rw [if_neg (fun h9 => h9 ((tg1 f E j k hk).mpr h))]
theorem tgn {f : Nat → Int32} {E : List (Nat × Nat)} {j : Nat} (k : Nat) {x : Int32} {A B : Int32} (hx : x = nI k) (hk : k < 1000) (h : ¬ tg f E j = k) : (if ¬ nI (tg f E j) = x then A else B) = A := by
  subst hx
  rw [if_pos (show ¬ nI (tg f E j) = nI k from fun h9 => h ((tg1 f E j k hk).mp h9))]
theorem VF.textLength (h : VF f n E H m F) (hH : H ≤ 65536) (hj : j < 65536) : sp_textLength H m F (nI j) = nI (tX f n E j).length := by
  unfold sp_textLength
  rw [h.tagOf hH hj]
  by_cases h1 : tg f E j = 1
  · obtain ⟨c, a1, a2, -⟩ := h.2.2.2.2 j h1
    rw [tgp (x := 1) 1 rfl (by decide) h1, nI_toNat (by omega), a2]
  · rw [tgn (x := 1) 1 rfl (by decide) h1, tx_no h1]
    rfl
theorem VF.characterAt {i : Nat} (h : VF f n E H m F) (hH : H ≤ 65536) (hm : m ≤ 65540) (hj : j < 65536) (hi : i < 1000000) : sp_characterAt H m F (nI j) (nI i) = if i < (tX f n E j).length then nI ((tX f n E j).getD i 0) else -1 := by
  unfold sp_characterAt
  rw [h.tagOf hH hj]
  have hl := tx_len f n E j
  by_cases h1 : tg f E j = 1
  · obtain ⟨c, a1, a2, a3, a4⟩ := h.2.2.2.2 j h1
    rw [tgp (x := 1) 1 rfl (by decide) h1, if_neg (nI_n0 (by omega)), nI_toNat (by omega), a2, a1]
    by_cases h2 : i < (tX f n E j).length
    · rw [if_pos ((lt_nI (by omega) (by omega)).mpr h2), if_pos h2, nI_add1 rfl (by omega), nI_toNat (by omega), a4 i h2]
    · rw [if_neg (fun h9 => h2 ((lt_nI (by omega) (by omega)).mp h9)), if_neg h2]
  · rw [tgn (x := 1) 1 rfl (by decide) h1, tx_no h1, if_neg (by simp)]
theorem shN_lt (l : List Nat) : shN l < 7000 := by
  unfold shN s_sh s_ms pW
  repeat' split
  all_goals omega
theorem VF.isField (h : VF f n E H m F) (hs : VS f n E F) (hH : H ≤ 65536) (hj : j < 65536) : (0 < shN (tX f n E j) ∧ shN (tX f n E j) < 4096 ∧ sp_isFieldDescriptor H m F (nI j) = 1) ∨ (¬ (0 < shN (tX f n E j) ∧ shN (tX f n E j) < 4096) ∧ sp_isFieldDescriptor H m F (nI j) = 0) := by
  unfold sp_isFieldDescriptor
  rw [h.tagOf hH hj, nI_toNat (by omega)]
  have hl := shN_lt (tX f n E j)
  by_cases h1 : tg f E j = 1
  · rw [tgp (x := 1) 1 rfl (by decide) h1, hs j h1]
    unfold shI
    by_cases h2 : shN (tX f n E j) = 0
    · rw [if_pos h2]
      exact Or.inr ⟨by omega, by decide⟩
    · rw [if_neg h2, if_neg (show ¬ nI (shN (tX f n E j)) ≤ 0 from fun h9 => h2 (by have := (le_nI (n := 0) (by omega) (by decide)).mp h9; omega))]
      by_cases h3 : shN (tX f n E j) < 4096
      · exact Or.inl ⟨by omega, h3, by rw [if_neg (show ¬ (4096 : Int32) ≤ nI (shN (tX f n E j)) from fun h9 => absurd ((le_nI (p := 4096) (by decide) (by omega)).mp h9) (by omega))]⟩
      · exact Or.inr ⟨by omega, by rw [if_pos (show (4096 : Int32) ≤ nI (shN (tX f n E j)) from (le_nI (p := 4096) (by decide) (by omega)).mpr (by omega))]⟩
  · rw [tgn (x := 1) 1 rfl (by decide) h1, tx_no h1]
    exact Or.inr ⟨by decide, rfl⟩
theorem VF.isMeth (h : VF f n E H m F) (hs : VS f n E F) (hH : H ≤ 65536) (hj : j < 65536) : (4096 ≤ shN (tX f n E j) ∧ sp_isMethodDescriptor H m F (nI j) = 1 ∧ F 5 j = nI (shN (tX f n E j))) ∨ (¬ 4096 ≤ shN (tX f n E j) ∧ sp_isMethodDescriptor H m F (nI j) = 0) := by
  unfold sp_isMethodDescriptor
  rw [h.tagOf hH hj, nI_toNat (by omega)]
  have hl := shN_lt (tX f n E j)
  by_cases h1 : tg f E j = 1
  · rw [tgp (x := 1) 1 rfl (by decide) h1, hs j h1]
    unfold shI
    by_cases h2 : shN (tX f n E j) = 0
    · rw [if_pos h2]
      exact Or.inr ⟨by omega, by decide⟩
    · rw [if_neg h2]
      by_cases h3 : 4096 ≤ shN (tX f n E j)
      · exact Or.inl ⟨h3, by rw [if_neg (show ¬ nI (shN (tX f n E j)) < 4096 from fun h9 => absurd ((lt_nI (n := 4096) (by omega) (by decide)).mp h9) (by omega))], rfl⟩
      · exact Or.inr ⟨h3, by rw [if_pos (show nI (shN (tX f n E j)) < 4096 from (lt_nI (n := 4096) (by omega) (by decide)).mpr (by omega))]⟩
  · rw [tgn (x := 1) 1 rfl (by decide) h1, tx_no h1]
    exact Or.inr ⟨by decide, rfl⟩
/-- places of a method's arguments -/
def argN (l : List Nat) : Nat := if 4096 ≤ shN l then shN l % 1024 else 0
def nresN (l : List Nat) : Nat := if 4096 ≤ shN l ∧ shN l < 5120 then 1 else 0
theorem argN_lt (l : List Nat) : argN l < 1024 := by
  unfold argN
  split <;> omega
theorem VF.argPl (h : VF f n E H m F) (hs : VS f n E F) (hH : H ≤ 65536) (hj : j < 65536) : sp_argumentPlaces H m F (nI j) = nI (argN (tX f n E j)) := by
  unfold sp_argumentPlaces argN
  have hl := shN_lt (tX f n E j)
  rcases h.isMeth hs hH hj with ⟨h1, h2, h3⟩ | ⟨h1, h2⟩
  · rw [h2, if_neg (show ¬ (1 : Int32) = 0 by decide), if_pos h1, nI_toNat (by omega), h3, nI_rem (a := shN (tX f n E j)) (x := 1024) (k := 1024) rfl rfl (by decide) (by omega)]
  · rw [h2, if_pos rfl, if_neg h1]
    rfl
theorem VF.noRes (h : VF f n E H m F) (hs : VS f n E F) (hH : H ≤ 65536) (hj : j < 65536) : sp_hasNoResult H m F (nI j) = nI (nresN (tX f n E j)) := by
  unfold sp_hasNoResult nresN
  have hl := shN_lt (tX f n E j)
  rcases h.isMeth hs hH hj with ⟨h1, h2, h3⟩ | ⟨h1, h2⟩
  · rw [h2, if_neg (show ¬ (1 : Int32) = 0 by decide), nI_toNat (by omega), h3, nI_sub1 (x := 4096) (k := 4096) rfl h1 (by omega)]
    by_cases h4 : shN (tX f n E j) < 5120
    · rw [if_neg (show ¬ (1024 : Int32) ≤ nI (shN (tX f n E j) - 4096) from fun h9 => absurd ((le_nI (p := 1024) (by decide) (by omega)).mp h9) (by omega)), if_pos ⟨h1, h4⟩]
      rfl
    · rw [if_pos (show (1024 : Int32) ≤ nI (shN (tX f n E j) - 4096) from (le_nI (p := 1024) (by decide) (by omega)).mpr (by omega)), if_neg (by omega)]
      rfl
  · rw [h2, if_pos rfl, if_neg (by omega)]
    rfl
/-- a Class entry, and no array's -/
def plnN (f : Nat → Int32) (n : Nat) (E : List (Nat × Nat)) (j : Nat) : Nat := if tg f E j = 7 ∧ ¬ (tX f n E (fi f E j)).getD 0 0 = 91 then 1 else 0
theorem VF.plain (h : VF f n E H m F) (hH : H ≤ 65536) (hm : m ≤ 65540) (hj : j < 65536) : sp_isPlainClass H m F (nI j) = nI (plnN f n E j) := by
  unfold sp_isPlainClass plnN
  rw [h.tagOf hH hj]
  by_cases h1 : tg f E j = 7
  · have h3 := tx_ch f n E (fi f E j) 0
    rw [tgp (x := 7) 7 rfl (by decide) h1, nI_toNat (by omega), (h.2.2.2.1 j (by omega)).1]
    have := h.characterAt (i := 0) hH hm (fi_lt f E j) (by decide)
    have e : (nI 0 : Int32) = 0 := rfl
    rw [e] at this
    rw [this]
    by_cases h2 : 0 < (tX f n E (fi f E j)).length
    · rw [if_pos h2]
      by_cases h4 : (tX f n E (fi f E j)).getD 0 0 = 91
      · rw [if_pos (show nI ((tX f n E (fi f E j)).getD 0 0) = 91 from (eq_nI (n := 91) (by omega) (by decide)).mpr h4), if_neg (fun h9 => h9.2 h4)]
        rfl
      · rw [if_neg (show ¬ nI ((tX f n E (fi f E j)).getD 0 0) = 91 from fun h9 => h4 ((eq_nI (n := 91) (by omega) (by decide)).mp h9)), if_pos ⟨h1, h4⟩]
        rfl
    · have hz : ¬ (tX f n E (fi f E j)).getD 0 0 = 91 := by
        rw [List.getD_eq_getElem?_getD, List.getElem?_eq_none (by omega)]
        decide
      rw [if_neg h2, if_neg (show ¬ (-1 : Int32) = 91 by decide), if_pos ⟨h1, hz⟩]
      rfl
  · rw [tgn (x := 7) 7 rfl (by decide) h1, if_neg (fun h9 => h1 h9.1)]
    rfl
end TXB
section TXC
def fldN (l : List Nat) : Nat := if 0 < shN l ∧ shN l < 4096 then 1 else 0
def mthN (l : List Nat) : Nat := if 4096 ≤ shN l then 1 else 0
def eqN (l l' : List Nat) : Nat := if l = l' then 1 else 0
def smN (f : Nat → Int32) (n : Nat) (E : List (Nat × Nat)) (j k : Nat) : Nat := if j = k ∨ (tg f E j = 1 ∧ tg f E k = 1 ∧ tX f n E j = tX f n E k) then 1 else 0
theorem VF.fld {f : Nat → Int32} {n H m j : Nat} {E : List (Nat × Nat)} {F : Nat → Nat → Int32} (h : VF f n E H m F) (hs : VS f n E F) (hH : H ≤ 65536) (hj : j < 65536) : sp_isFieldDescriptor H m F (nI j) = nI (fldN (tX f n E j)) := by
  unfold fldN
  rcases h.isField hs hH hj with ⟨e1, e2, e3⟩ | ⟨e1, e3⟩
  · rw [e3, if_pos ⟨e1, e2⟩]
    rfl
  · rw [e3, if_neg e1]
    rfl
theorem VF.mth {f : Nat → Int32} {n H m j : Nat} {E : List (Nat × Nat)} {F : Nat → Nat → Int32} (h : VF f n E H m F) (hs : VS f n E F) (hH : H ≤ 65536) (hj : j < 65536) : sp_isMethodDescriptor H m F (nI j) = nI (mthN (tX f n E j)) := by
  unfold mthN
  rcases h.isMeth hs hH hj with ⟨e1, e3, -⟩ | ⟨e1, e3⟩
  · rw [e3, if_pos e1]
    rfl
  · rw [e3, if_neg e1]
    rfl
theorem le1_fld (l : List Nat) : fldN l < 2 := by unfold fldN; split <;> decide
theorem le1_mth (l : List Nat) : mthN l < 2 := by unfold mthN; split <;> decide
theorem le1_eq (l l' : List Nat) : eqN l l' < 2 := by unfold eqN; split <;> decide
theorem le1_sm (f : Nat → Int32) (n : Nat) (E : List (Nat × Nat)) (j k : Nat) : smN f n E j k < 2 := by unfold smN; split <;> decide
theorem le1_ang (l : List Nat) : angN l < 2 := by unfold angN; split <;> decide
theorem le1_unq (l : List Nat) : unqN l < 2 := by unfold unqN; split <;> decide
theorem le1_cls (l : List Nat) : clsN l < 2 := by unfold clsN; repeat' split
                                                  all_goals decide
theorem le1_nres (l : List Nat) : nresN l < 2 := by unfold nresN; split <;> decide
theorem le1_pln (f : Nat → Int32) (n : Nat) (E : List (Nat × Nat)) (j : Nat) : plnN f n E j < 2 := by unfold plnN; split <;> decide
theorem gd_mem {l : List Nat} {i : Nat} (h : i < l.length) : l.getD i 0 ∈ l := by
  rw [List.getD_eq_getElem?_getD, List.getElem?_eq_getElem h, Option.getD_some]
  exact List.getElem_mem h
theorem gd_nil {l : List Nat} {x : Nat} (h : ¬ 0 < l.length) (hx : ¬ x = 0) : ¬ l.getD 0 0 = x := by
  rw [List.getD_eq_getElem?_getD, List.getElem?_eq_none (by omega)]
  exact fun e => hx e.symm
theorem gd_of {l : List Nat} {x : Nat} (h : x ∈ l) : ∃ i, i < l.length ∧ l.getD i 0 = x := by
  obtain ⟨i, hi, e⟩ := List.getElem_of_mem h
  exact ⟨i, hi, by rw [List.getD_eq_getElem?_getD, List.getElem?_eq_getElem hi, Option.getD_some, e]⟩
theorem gd_ext {l l' : List Nat} (h : l.length = l'.length) (he : ∀ i, i < l.length → l.getD i 0 = l'.getD i 0) : l = l' := by
  refine List.ext_getElem h (fun i h1 h2 => ?_)
  have := he i h1
  rw [List.getD_eq_getElem?_getD, List.getD_eq_getElem?_getD, List.getElem?_eq_getElem h1, List.getElem?_eq_getElem h2] at this
  exact this
theorem ang_in {l : List Nat} {i : Nat} (hi : i < l.length) (h : l.getD i 0 = 60 ∨ l.getD i 0 = 62) : angN l = 1 := by
  unfold angN
  have := gd_mem hi
  rw [if_pos]
  rcases h with h | h <;> rw [h] at this
  · exact Or.inl this
  · exact Or.inr this
theorem ang_no {l : List Nat} (h : ∀ i, i < l.length → ¬ l.getD i 0 = 60 ∧ ¬ l.getD i 0 = 62) : angN l = 0 := by
  unfold angN
  rw [if_neg]
  rintro (h1 | h1) <;> obtain ⟨i, hi, e⟩ := gd_of h1
  · exact (h i hi).1 e
  · exact (h i hi).2 e
theorem unq_no {l : List Nat} {i : Nat} (hi : i < l.length) (h : l.getD i 0 = 46 ∨ l.getD i 0 = 59 ∨ l.getD i 0 = 91 ∨ l.getD i 0 = 47) : unqN l = 0 := by
  unfold unqN
  have := gd_mem hi
  rw [if_pos]
  rcases h with h | h | h | h <;> rw [h] at this
  · exact Or.inr (Or.inl this)
  · exact Or.inr (Or.inr (Or.inl this))
  · exact Or.inr (Or.inr (Or.inr (Or.inl this)))
  · exact Or.inr (Or.inr (Or.inr (Or.inr this)))
theorem unq_nil {l : List Nat} (h : ¬ 0 < l.length) : unqN l = 0 := by
  unfold unqN
  rw [if_pos (Or.inl (List.eq_nil_of_length_eq_zero (by omega)))]
theorem unq_in {l : List Nat} (h0 : 0 < l.length) (h : ∀ i, i < l.length → ¬ l.getD i 0 = 46 ∧ ¬ l.getD i 0 = 59 ∧ ¬ l.getD i 0 = 91 ∧ ¬ l.getD i 0 = 47) : unqN l = 1 := by
  unfold unqN
  rw [if_neg]
  rintro (h1 | h1 | h1 | h1 | h1)
  · rw [h1] at h0
    exact absurd h0 (by decide)
  all_goals obtain ⟨i, hi, e⟩ := gd_of h1
  · exact (h i hi).1 e
  · exact (h i hi).2.1 e
  · exact (h i hi).2.2.1 e
  · exact (h i hi).2.2.2 e
theorem ltx_ne : ∀ k, k < 30 → ¬ ltx k = [] := by decide +kernel
theorem ltx_ch : ∀ k, k < 15 → ∀ i, i < 30 → (ltx k).getD i 0 < 65536 ∧ (ltx k).length < 30 := by decide +kernel
end TXC
