/-! texts as the reference reads them (my own text) -/
section TEA
theorem SYT.ch {tx : List (List Nat)} {cN : Nat} {A : Nat → Nat} {I : rI} {R : rR} {s k : Nat} {l : List Nat} (h : SYT tx cN A I R) (hs : s < tx.length ∧ tx.getD s [] = l) (hk : k < l.length) : l.getD k 0 < 65536 := by
  obtain ⟨-, -, -, h4⟩ := h.2.1 s hs.1
  rw [hs.2] at h4
  exact (h4 k hk).2
theorem SYT.ln {tx : List (List Nat)} {cN : Nat} {A : Nat → Nat} {I : rI} {R : rR} {s : Nat} {l : List Nat} (h : SYT tx cN A I R) (hs : s < tx.length ∧ tx.getD s [] = l) : l.length ≤ 66000 := by
  obtain ⟨-, -, h3, -⟩ := h.2.1 s hs.1
  rw [hs.2] at h3
  have := h.1.2.2.2
  omega
theorem mem_gd {l : List Nat} {k : Nat} (h : k < l.length) : l.getD k 0 ∈ l := by
  rw [List.getD_eq_getElem?_getD, List.getElem?_eq_getElem h, Option.getD_some]
  exact List.getElem_mem h
theorem gdm7 {l : List Nat} {x : Nat} (h : x ∈ l) : ∃ i, i < l.length ∧ l.getD i 0 = x := by
  obtain ⟨i, hi, e⟩ := List.getElem_of_mem h
  refine ⟨i, hi, ?_⟩
  rw [List.getD_eq_getElem?_getD, List.getElem?_eq_getElem hi, Option.getD_some]
  exact e
theorem unq_no7 {l : List Nat} {k : Nat} (hk : k < l.length) (h : l.getD k 0 = 46 ∨ l.getD k 0 = 59 ∨ l.getD k 0 = 91 ∨ l.getD k 0 = 47) : unqN l = 0 := by
  unfold unqN
  have := mem_gd hk
  rw [if_pos]
  rcases h with h | h | h | h <;> rw [h] at this
  · exact Or.inr (Or.inl this)
  · exact Or.inr (Or.inr (Or.inl this))
  · exact Or.inr (Or.inr (Or.inr (Or.inl this)))
  · exact Or.inr (Or.inr (Or.inr (Or.inr this)))
theorem unq_ok {l : List Nat} (hl : 0 < l.length) (h : ∀ i, i < l.length → ¬ (l.getD i 0 = 46 ∨ l.getD i 0 = 59 ∨ l.getD i 0 = 91 ∨ l.getD i 0 = 47)) : unqN l = 1 := by
  unfold unqN
  rw [if_neg]
  rintro (h1 | h1 | h1 | h1 | h1)
  · rw [h1] at hl
    exact absurd hl (by decide)
  all_goals
    obtain ⟨i, hi, e⟩ := gdm7 h1
    have := h i hi
    omega
theorem unq_nil7 {l : List Nat} (hl : l.length ≤ 0) : unqN l = 0 := by
  unfold unqN
  rw [if_pos (Or.inl (List.eq_nil_of_length_eq_zero (by omega)))]
theorem ang_1 {l : List Nat} {k : Nat} (hk : k < l.length) (h : l.getD k 0 = 60 ∨ l.getD k 0 = 62) : angN l = 1 := by
  unfold angN
  have := mem_gd hk
  rw [if_pos]
  rcases h with h | h <;> rw [h] at this
  · exact Or.inl this
  · exact Or.inr this
theorem ang_0 {l : List Nat} (h : ∀ i, i < l.length → ¬ (l.getD i 0 = 60 ∨ l.getD i 0 = 62)) : angN l = 0 := by
  unfold angN
  rw [if_neg]
  rintro (h1 | h1)
  all_goals
    obtain ⟨i, hi, e⟩ := gdm7 h1
    have := h i hi
    omega
def unq0 (l : List Nat) : Nat := if ¬ unqN l = 0 ∧ angN l = 0 then 1 else 0
end TEA
section TEB
variable {c : Nat → Nat}
def nmN (c : Nat → Nat) (a e : Nat) : Nat := if s_nm c (e - a) a a = some e then 1 else 0
theorem nm_st {e k p : Nat} (h : k < e) : s_nm c (e - k) k p = if c k = 59 then (if p < k then some k else none) else if c k = 46 ∨ c k = 91 ∨ (c k = 47 ∧ k = p) then none else s_nm c (e - (k + 1)) (k + 1) (if c k = 47 then k + 1 else p) := by
  rw [show e - k = (e - (k + 1)) + 1 by omega]
  rfl
theorem nm_bad {e k p : Nat} (h : k < e) (hc : c k = 46 ∨ c k = 59 ∨ c k = 91 ∨ (c k = 47 ∧ k = p)) : ¬ s_nm c (e - k) k p = some e := by
  rw [nm_st h]
  by_cases h1 : c k = 59
  · rw [if_pos h1]
    split
    · exact fun h9 => by have := Option.some.inj h9; omega
    · exact fun h9 => by cases h9
  · rw [if_neg h1, if_pos (by omega)]
    exact fun h9 => by cases h9
theorem nm_go {e k p : Nat} (h : k < e) (hc : ¬ (c k = 46 ∨ c k = 59 ∨ c k = 91 ∨ (c k = 47 ∧ k = p))) : s_nm c (e - k) k p = s_nm c (e - (k + 1)) (k + 1) (if c k = 47 then k + 1 else p) := by
  rw [nm_st h, if_neg (by omega), if_neg (by omega)]
theorem nm_end {e p : Nat} : s_nm c (e - e) e p = if p < e then some e else none := by
  rw [Nat.sub_self]
  rfl
theorem nm_stop : ∀ {r i p x : Nat}, s_nm c r i p = some x → x < i + r → c x = 59 := by
  intro r
  induction r with
  | zero => intro i p x h hx; have := s_nm_le h; omega
  | succ r ih =>
    intro i p x h hx
    unfold s_nm at h
    split at h
    · rename_i h1
      split at h
      · cases h; exact h1
      · cases h
    · split at h
      · cases h
      · exact ih h (by omega)
theorem nm_no : ∀ {r i p x : Nat}, (∀ j, i ≤ j → j < i + r → ¬ c j = 59) → s_nm c r i p = some x → x = i + r := by
  intro r i p x h hx
  have h1 := s_nm_le hx
  by_cases e : x = i + r
  · exact e
  · exact absurd (nm_stop hx (by omega)) (h x (by omega) (by omega))
theorem nm_semi {e n : Nat} (he : e < n) (hc : c e = 59) : ∀ {d i p : Nat}, d = e - i → i ≤ e → p ≤ i → (∀ j, i ≤ j → j < e → ¬ c j = 59) → s_nm c (n - i) i p = if s_nm c (e - i) i p = some e then some e else none := by
  intro d
  induction d with
  | zero =>
    intro i p hd hi hp h
    have e1 : i = e := by omega
    subst e1
    rw [nm_st he, if_pos hc, nm_end]
    by_cases h1 : p < i
    · rw [if_pos h1, if_pos rfl]
    · rw [if_neg h1, if_neg (fun h9 => by cases h9)]
  | succ d ih =>
    intro i p hd hi hp h
    have h1 : ¬ c i = 59 := h i (Nat.le_refl _) (by omega)
    rw [nm_st (show i < n by omega), nm_st (show i < e by omega), if_neg h1, if_neg h1]
    by_cases h2 : c i = 46 ∨ c i = 91 ∨ (c i = 47 ∧ i = p)
    · rw [if_pos h2, if_pos h2, if_neg (fun h9 => by cases h9)]
    · rw [if_neg h2, if_neg h2]
      exact ih (by omega) (by omega) (by split <;> omega) (fun j a b => h j (by omega) b)
theorem br_st {n k : Nat} (h : k < n) : s_br c (n - k) k = if c k = 91 then s_br c (n - (k + 1)) (k + 1) else k := by
  rw [show n - k = (n - (k + 1)) + 1 by omega]
  rfl
theorem br_end {n k : Nat} (h : n ≤ k) : s_br c (n - k) k = k := by
  rw [show n - k = 0 by omega]
  rfl
theorem ty_1 {n a k : Nat} (hb : s_br c (n - a) a = k) (h : n ≤ k ∨ 255 < k - a) : s_ty c n a = none := by
  unfold s_ty
  rw [hb, if_pos h]
theorem ty_p {n a k : Nat} (hb : s_br c (n - a) a = k) (h : ¬ (n ≤ k ∨ 255 < k - a)) (hp : c k = 66 ∨ c k = 67 ∨ c k = 68 ∨ c k = 70 ∨ c k = 73 ∨ c k = 74 ∨ c k = 83 ∨ c k = 90) : s_ty c n a = some (k + 1) := by
  unfold s_ty
  rw [hb, if_neg h, if_pos hp]
theorem ty_o {n a k : Nat} (hb : s_br c (n - a) a = k) (h : ¬ (n ≤ k ∨ 255 < k - a)) (hp : ¬ (c k = 66 ∨ c k = 67 ∨ c k = 68 ∨ c k = 70 ∨ c k = 73 ∨ c k = 74 ∨ c k = 83 ∨ c k = 90)) (hl : ¬ c k = 76) : s_ty c n a = none := by
  unfold s_ty
  rw [hb, if_neg h, if_neg hp, if_neg hl]
theorem ty_L {n a k : Nat} (hb : s_br c (n - a) a = k) (h : ¬ (n ≤ k ∨ 255 < k - a)) (hl : c k = 76) : s_ty c n a = match s_nm c (n - (k + 1)) (k + 1) (k + 1) with
    | none => none
    | some x => if x < n then some (x + 1) else none := by
  unfold s_ty
  rw [hb, if_neg h, if_neg (by omega), if_pos hl]
  rfl
theorem ty_Ln {n a k : Nat} (hb : s_br c (n - a) a = k) (h : ¬ (n ≤ k ∨ 255 < k - a)) (hl : c k = 76) (hn : ∀ j, k + 1 ≤ j → j < n → ¬ c j = 59) : s_ty c n a = none := by
  rw [ty_L hb h hl]
  cases hx : s_nm c (n - (k + 1)) (k + 1) (k + 1) with
  | none => rfl
  | some x =>
    have := nm_no (fun j a b => hn j a (by omega)) hx
    show (if x < n then some (x + 1) else none) = none
    rw [if_neg (by omega)]
theorem ty_Ls {n a k e : Nat} (hb : s_br c (n - a) a = k) (h : ¬ (n ≤ k ∨ 255 < k - a)) (hl : c k = 76) (he : e < n) (hk : k + 1 ≤ e) (hc : c e = 59) (hn : ∀ j, k + 1 ≤ j → j < e → ¬ c j = 59) : s_ty c n a = if nmN c (k + 1) e = 0 then none else some (e + 1) := by
  rw [ty_L hb h hl, nm_semi he hc rfl hk (Nat.le_refl _) hn]
  unfold nmN
  by_cases h1 : s_nm c (e - (k + 1)) (k + 1) (k + 1) = some e
  · rw [if_pos h1, if_pos h1, if_neg (by decide)]
    show (if e < n then some (e + 1) else none) = _
    rw [if_pos he]
  · rw [if_neg h1, if_neg h1, if_pos rfl]
theorem ty_last {e i : Nat} (h : s_ty c e i = some e) : ¬ c (e - 1) = 86 := by
  unfold s_ty at h
  have h1 := s_br_le (c := c) (r := e - i) (i := i)
  split at h
  · cases h
  · split at h
    · have h2 := Option.some.inj h
      rw [show e - 1 = s_br c (e - i) i by omega]
      omega
    · split at h
      · split at h
        · cases h
        · rename_i y hy
          split at h
          · have h2 := Option.some.inj h
            have h3 := nm_stop hy (by omega)
            rw [show e - 1 = y by omega, h3]
            decide
          · cases h
      · cases h
/-- arguments without a limit -/
def s_pl (c : Nat → Nat) (e : Nat) : Nat → Nat → Nat → Option (Nat × Nat)
  | 0, i, w => some (i, w)
  | r + 1, i, w => if i < e ∧ ¬ c i = 41 then (match s_ty c e i with
    | none => none
    | some i' => s_pl c e r i' (w + pW (c i))) else some (i, w)
theorem s_pl_0 {e r i w : Nat} (h : ¬ (i < e ∧ ¬ c i = 41)) : s_pl c e r i w = some (i, w) := by
  cases r with
  | zero => rfl
  | succ r => unfold s_pl; rw [if_neg h]
theorem s_pl_fuel {e : Nat} : ∀ {r r' i w : Nat}, e - i ≤ r → e - i ≤ r' → s_pl c e r i w = s_pl c e r' i w := by
  intro r
  induction r with
  | zero => intro r' i w h h'; rw [s_pl_0 (by omega), s_pl_0 (by omega)]
  | succ r ih =>
    intro r' i w h h'
    by_cases h1 : i < e ∧ ¬ c i = 41
    · cases r' with
      | zero => omega
      | succ r' =>
        unfold s_pl
        rw [if_pos h1, if_pos h1]
        cases ht : s_ty c e i with
        | none => rfl
        | some x =>
          have := s_ty_le ht
          exact ih (by omega) (by omega)
    · rw [s_pl_0 h1, s_pl_0 h1]
theorem s_pl_step {e i w x : Nat} (h : i < e ∧ ¬ c i = 41) (ht : s_ty c e i = some x) : s_pl c e (e - i) i w = s_pl c e (e - x) x (w + pW (c i)) := by
  have := s_ty_le ht
  rw [show e - i = (e - i - 1) + 1 by omega]
  conv => lhs; unfold s_pl
  rw [if_pos h, ht]
  exact s_pl_fuel (by omega) (by omega)
theorem s_pl_bad {e i w : Nat} (h : i < e ∧ ¬ c i = 41) (ht : s_ty c e i = none) : s_pl c e (e - i) i w = none := by
  rw [show e - i = (e - i - 1) + 1 by omega]
  unfold s_pl
  rw [if_pos h, ht]
theorem ar_pl {e : Nat} : ∀ {r i w : Nat}, e - i ≤ r → (∀ k W, s_pl c e r i w = some (k, W) → w ≤ W ∧ i ≤ k ∧ (W ≤ 255 → s_ar c e r i w = some (k, W)) ∧ (255 < W → ∃ k' w', s_ar c e r i w = some (k', w') ∧ 255 < w')) ∧ (s_pl c e r i w = none → s_ar c e r i w = none ∨ ∃ k' w', s_ar c e r i w = some (k', w') ∧ 255 < w') := by
  intro r
  induction r with
  | zero =>
    intro i w hr
    refine ⟨fun k W h => ?_, fun h => (by cases h)⟩
    cases h
    exact ⟨Nat.le_refl _, Nat.le_refl _, fun _ => rfl, fun h9 => ⟨i, w, rfl, h9⟩⟩
  | succ r ih =>
    intro i w hr
    by_cases h1 : i < e ∧ ¬ c i = 41
    · cases ht : s_ty c e i with
      | none =>
        have e1 : s_pl c e (r + 1) i w = none := by
          unfold s_pl
          rw [if_pos h1, ht]
        refine ⟨fun k W h => (by rw [e1] at h; cases h), fun _ => ?_⟩
        by_cases h2 : w ≤ 255
        · exact Or.inl (by unfold s_ar; rw [if_pos ⟨h2, h1.1, h1.2⟩, ht])
        · exact Or.inr ⟨i, w, s_ar_0 (by omega), by omega⟩
      | some x =>
        have hx := s_ty_le ht
        have e1 : s_pl c e (r + 1) i w = s_pl c e r x (w + pW (c i)) := by
          conv => lhs; unfold s_pl
          rw [if_pos h1, ht]
        have h3 := ih (i := x) (w := w + pW (c i)) (by omega)
        by_cases h2 : w ≤ 255
        · have e2 : s_ar c e (r + 1) i w = s_ar c e r x (w + pW (c i)) := by
            conv => lhs; unfold s_ar
            rw [if_pos ⟨h2, h1.1, h1.2⟩, ht]
          rw [e1, e2]
          refine ⟨fun k W h => ?_, h3.2⟩
          obtain ⟨a, b, d⟩ := h3.1 k W h
          exact ⟨by omega, by omega, d⟩
        · rw [e1]
          refine ⟨fun k W h => ?_, fun _ => Or.inr ⟨i, w, s_ar_0 (by omega), by omega⟩⟩
          obtain ⟨a, b, d⟩ := h3.1 k W h
          exact ⟨by omega, by omega, fun h9 => by omega, fun _ => ⟨i, w, s_ar_0 (by omega), by omega⟩⟩
    · rw [s_pl_0 h1, s_ar_0 (by omega)]
      refine ⟨fun k W h => ?_, fun h => (by cases h)⟩
      cases h
      exact ⟨Nat.le_refl _, Nat.le_refl _, fun _ => rfl, fun h9 => ⟨i, w, rfl, h9⟩⟩
theorem ms_pl {e k W : Nat} (h : s_pl c e (e - 1) 1 0 = some (k, W)) : s_ms c e 1 = if e ≤ k + 1 ∨ 255 < W then 0 else if c (k + 1) = 86 ∧ k + 2 = e then 4096 + W else if s_ty c e (k + 1) = some e then 4096 + 1024 * pW (c (k + 1)) + W else 0 := by
  obtain ⟨-, -, h1, h2⟩ := (ar_pl (c := c) (e := e) (r := e - 1) (i := 1) (w := 0) (by omega)).1 k W h
  unfold s_ms
  by_cases hw : W ≤ 255
  · rw [h1 hw]
  · obtain ⟨k', w', e1, e2⟩ := h2 (by omega)
    rw [e1]
    show (if e ≤ k' + 1 ∨ 255 < w' then 0 else _) = _
    rw [if_pos (Or.inr e2), if_pos (Or.inr (by omega))]
theorem ms_no {e : Nat} (h : s_pl c e (e - 1) 1 0 = none) : s_ms c e 1 = 0 := by
  unfold s_ms
  rcases (ar_pl (c := c) (e := e) (r := e - 1) (i := 1) (w := 0) (by omega)).2 h with e1 | ⟨k', w', e1, e2⟩
  · rw [e1]
  · rw [e1]
    show (if e ≤ k' + 1 ∨ 255 < w' then 0 else _) = _
    rw [if_pos (Or.inr e2)]
end TEB
section TEC
variable {l : List Nat}
theorem fld_eq : fldN l = if s_ty (fun i => l.getD i 0) l.length 0 = some l.length then 1 else 0 := by
  unfold fldN shN s_sh
  by_cases h0 : l.length = 0
  · rw [if_pos h0, if_neg (by omega), if_neg]
    unfold s_ty
    rw [if_pos (Or.inl (by omega))]
    exact fun h => by cases h
  · rw [if_neg h0]
    by_cases h1 : l.getD 0 0 = 40
    · rw [if_pos h1]
      have h2 : s_ty (fun i => l.getD i 0) l.length 0 = none := by
        have hb : s_br (fun i => l.getD i 0) (l.length - 0) 0 = 0 := by
          rw [br_st (by omega), if_neg (by rw [h1]; decide)]
        exact ty_o hb (by omega) (by rw [h1]; decide) (by rw [h1]; decide)
      rw [h2, if_neg (show ¬ ((none : Option Nat) = some l.length) from fun h => by cases h), if_neg]
      unfold s_ms
      split
      · omega
      · split
        · omega
        · split
          · omega
          · split <;> omega
    · rw [if_neg h1]
      have h3 := pW_le (l.getD 0 0)
      by_cases h2 : s_ty (fun i => l.getD i 0) l.length 0 = some l.length
      · rw [if_pos h2, if_pos h2, if_pos]
        unfold pW
        split <;> omega
      · rw [if_neg h2, if_neg h2, if_neg (by omega)]
theorem mth_sh (h1 : 0 < l.length) (h2 : l.getD 0 0 = 40) : shN l = s_ms (fun i => l.getD i 0) l.length 1 := by
  unfold shN s_sh
  rw [if_neg (by omega), if_pos h2]
theorem mth_no (h : l.length = 0 ∨ ¬ l.getD 0 0 = 40) : mthN l = 0 := by
  unfold mthN shN s_sh
  by_cases h0 : l.length = 0
  · rw [if_pos h0, if_neg (by omega)]
  · rw [if_neg h0, if_neg (show ¬ l.getD 0 0 = 40 by omega)]
    have h3 := pW_le (l.getD 0 0)
    dsimp only
    split
    · rw [if_neg (by omega)]
    · rw [if_neg (by omega)]
theorem mth_pl {k W : Nat} (h1 : 0 < l.length) (h2 : l.getD 0 0 = 40) (h : s_pl (fun i => l.getD i 0) l.length (l.length - 1) 1 0 = some (k, W)) : mthN l = if l.length ≤ k + 1 ∨ 255 < W then 0 else if (l.getD (k + 1) 0 = 86 ∧ k + 2 = l.length) ∨ s_ty (fun i => l.getD i 0) l.length (k + 1) = some l.length then 1 else 0 := by
  unfold mthN
  rw [mth_sh h1 h2, ms_pl h]
  by_cases a : l.length ≤ k + 1 ∨ 255 < W
  · rw [if_pos a, if_pos a, if_neg (by omega)]
  · rw [if_neg a, if_neg a]
    by_cases b : l.getD (k + 1) 0 = 86 ∧ k + 2 = l.length
    · rw [if_pos b, if_pos (by omega), if_pos (Or.inl b)]
    · rw [if_neg b]
      by_cases d : s_ty (fun i => l.getD i 0) l.length (k + 1) = some l.length
      · rw [if_pos d, if_pos (by omega), if_pos (Or.inr d)]
      · rw [if_neg d, if_neg (by omega), if_neg (fun h9 => h9.elim b d)]
theorem mth_nopl (h1 : 0 < l.length) (h2 : l.getD 0 0 = 40) (h : s_pl (fun i => l.getD i 0) l.length (l.length - 1) 1 0 = none) : mthN l = 0 := by
  unfold mthN
  rw [mth_sh h1 h2, ms_no h, if_neg (by omega)]
/-- a method's descriptor: where its arguments end, how many places they take -/
theorem mth_in (h : ¬ mthN l = 0) : 0 < l.length ∧ l.getD 0 0 = 40 ∧ ∃ k W, s_pl (fun i => l.getD i 0) l.length (l.length - 1) 1 0 = some (k, W) ∧ k + 1 < l.length ∧ W ≤ 255 ∧ 1 ≤ k ∧ l.getD k 0 = 41 ∧ argN l = W ∧ nresN l = if l.getD (l.length - 1) 0 = 86 ∧ l.getD (l.length - 2) 0 = 41 then 1 else 0 := by
  by_cases h0 : l.length = 0 ∨ ¬ l.getD 0 0 = 40
  · exact absurd (mth_no h0) h
  · have h1 : 0 < l.length := by omega
    have h2 : l.getD 0 0 = 40 := by omega
    refine ⟨h1, h2, ?_⟩
    cases hp : s_pl (fun i => l.getD i 0) l.length (l.length - 1) 1 0 with
    | none => exact absurd (mth_nopl h1 h2 hp) h
    | some kw =>
      obtain ⟨k, W⟩ := kw
      have h3 := mth_pl h1 h2 hp
      have h4 := ((ar_pl (c := fun i => l.getD i 0) (e := l.length) (r := l.length - 1) (i := 1) (w := 0) (by omega)).1 k W hp)
      by_cases a : l.length ≤ k + 1 ∨ 255 < W
      · rw [if_pos a] at h3
        exact absurd h3 h
      · have hk : l.getD k 0 = 41 := by
          have h5 : ∀ {r i w : Nat}, l.length - i ≤ r → s_pl (fun i => l.getD i 0) l.length r i w = some (k, W) → l.length ≤ k ∨ l.getD k 0 = 41 := by
            intro r
            induction r with
            | zero => intro i w hr hx; cases hx; omega
            | succ r ih =>
              intro i w hr hx
              by_cases b : i < l.length ∧ ¬ l.getD i 0 = 41
              · unfold s_pl at hx
                rw [if_pos b] at hx
                split at hx
                · cases hx
                · rename_i y hy
                  have := s_ty_le hy
                  exact ih (by omega) hx
              · rw [s_pl_0 b] at hx
                cases hx
                omega
          have := h5 (Nat.le_refl _) hp
          omega
        have hs := mth_sh h1 h2
        rw [ms_pl hp, if_neg a] at hs
        rw [if_neg a] at h3
        have hpw := pW_le (l.getD (k + 1) 0)
        refine ⟨k, W, rfl, by omega, by omega, h4.2.1, hk, ?_⟩
        by_cases b : l.getD (k + 1) 0 = 86 ∧ k + 2 = l.length
        · rw [if_pos b] at hs
          refine ⟨by unfold argN; rw [hs, if_pos (by omega)]; omega, ?_⟩
          unfold nresN
          rw [hs, if_pos (by omega), if_pos]
          rw [show l.length - 1 = k + 1 by omega, show l.length - 2 = k by omega]
          exact ⟨b.1, hk⟩
        · rw [if_neg b] at hs
          by_cases d : s_ty (fun i => l.getD i 0) l.length (k + 1) = some l.length
          · rw [if_pos d] at hs
            have hpw1 : 1 ≤ pW (l.getD (k + 1) 0) := by unfold pW; split <;> omega
            refine ⟨by unfold argN; rw [hs, if_pos (by omega)]; omega, ?_⟩
            unfold nresN
            rw [hs, if_neg (by omega), if_neg]
            exact fun h9 => ty_last d h9.1
          · rw [if_neg (fun h9 => h9.elim b d)] at h3
            exact absurd h3 h
end TEC

theorem nmN_le (c : Nat → Nat) (a e : Nat) : nmN c a e < 2 := by unfold nmN; split <;> decide
set_option maxHeartbeats 1000000 in
theorem rd_length {g : xe_G} {m0 : Nat} {q : Nat → Nat} {z : Nat × Nat} {I : rI} {R : rR} {M : mi_H} {tx : List (List Nat)} {cN : Nat} {A : Nat → Nat} {s : Nat} {l : List Nat} (hR : RS g m0 q z I R M)  (hY : SYT tx cN A I R) (hs : s < tx.length ∧ tx.getD s [] = l) : pt (mT g) 221 [.ref m0, .int (nI s)] M (fun v M' => (v = some (.int (nI (l.length))) ∧ M = M')) := by
  refine pt_in (b := mb_221 g) rfl (fun kf => ?_)
  show pl (mT g) kf (mb_221 g).2 (0, [(0, .ref m0), (1, .int (nI s))], [], M) _
  have hln := hY.ln hs
  have hts := hY.1.2.2
  refine ps_st (S' := (1, [(0, .ref m0), (1, .int (nI s))], [.ref m0], M)) rfl rfl rfl ?_
  refine pr_ref (j := 5) (S' := (4, [(0, .ref m0), (1, .int (nI s))], [.ref (q 5)], M)) rfl hR rfl rfl ?_
  refine ps_st (S' := (5, [(0, .ref m0), (1, .int (nI s))], [.int (nI s), .ref (q 5)], M)) rfl rfl rfl ?_
  refine pr_ld (a := 5) (j := s) (y := (nI l.length)) (S' := (6, [(0, .ref m0), (1, .int (nI s))], [.int (nI l.length)], M)) rfl hR rfl (by omega) (fun _ => by rw [← hs.2]; exact (hY.2.1 s hs.1).2.1) rfl (fun i1_5 => ?_)
  exact ps_reti rfl (⟨rfl, rfl⟩)
set_option maxHeartbeats 1000000 in
theorem rd_at {g : xe_G} {m0 : Nat} {q : Nat → Nat} {z : Nat × Nat} {I : rI} {R : rR} {M : mi_H} {tx : List (List Nat)} {cN : Nat} {A : Nat → Nat} {s : Nat} {l : List Nat} {k : Nat} (hR : RS g m0 q z I R M)  (hY : SYT tx cN A I R) (hs : s < tx.length ∧ tx.getD s [] = l) (hk : k < l.length) : pt (mT g) 176 [.ref m0, .int (nI s), .int (nI k)] M (fun v M' => (v = some (.int (nI (l.getD k 0))) ∧ M = M')) := by
  refine pt_in (b := mb_176 g) rfl (fun kf => ?_)
  show pl (mT g) kf (mb_176 g).2 (0, [(0, .ref m0), (1, .int (nI s)), (2, .int (nI k))], [], M) _
  have hln := hY.ln hs
  have hts := hY.1.2.2
  obtain ⟨ha1, ha2, ha3, ha4⟩ := hY.2.1 s hs.1
  rw [hs.2] at ha2 ha3 ha4
  refine ps_st (S' := (1, [(0, .ref m0), (1, .int (nI s)), (2, .int (nI k))], [.ref m0], M)) rfl rfl rfl ?_
  refine pr_ref (j := 1) (S' := (4, [(0, .ref m0), (1, .int (nI s)), (2, .int (nI k))], [.ref (q 1)], M)) rfl hR rfl rfl ?_
  refine ps_st (S' := (5, [(0, .ref m0), (1, .int (nI s)), (2, .int (nI k))], [.ref m0, .ref (q 1)], M)) rfl rfl rfl ?_
  refine pr_ref (j := 4) (S' := (8, [(0, .ref m0), (1, .int (nI s)), (2, .int (nI k))], [.ref (q 4), .ref (q 1)], M)) rfl hR rfl rfl ?_
  refine ps_st (S' := (9, [(0, .ref m0), (1, .int (nI s)), (2, .int (nI k))], [.int (nI s), .ref (q 4), .ref (q 1)], M)) rfl rfl rfl ?_
  refine pr_ld (a := 4) (j := s) (y := (nI (A s))) (S' := (10, [(0, .ref m0), (1, .int (nI s)), (2, .int (nI k))], [.int (nI (A s)), .ref (q 1)], M)) rfl hR rfl (by omega) (fun _ => ha1) rfl (fun i1_9 => ?_)
  refine ps_st (S' := (11, [(0, .ref m0), (1, .int (nI s)), (2, .int (nI k))], [.int (nI k), .int (nI (A s)), .ref (q 1)], M)) rfl rfl rfl ?_
  refine ps_st (S' := (12, [(0, .ref m0), (1, .int (nI s)), (2, .int (nI k))], [.int ((nI (A s)) + (nI k)), .ref (q 1)], M)) rfl rfl rfl ?_
  rw [nI_add1 (p := A s) (k := k) (x := (nI k)) rfl (by omega)]
  show pl _ _ _ (_, [(0, .ref m0), (1, .int (nI s)), (2, .int (nI k))], [.int (nI (A s + k)), .ref (q 1)], M) _
  refine pr_ld (a := 1) (j := A s + k) (y := (nI (l.getD k 0))) (S' := (13, [(0, .ref m0), (1, .int (nI s)), (2, .int (nI k))], [.int (nI (l.getD k 0))], M)) rfl hR rfl (by omega) (fun _ => (ha4 k hk).1) rfl (fun i1_12 => ?_)
  exact ps_reti rfl (⟨rfl, rfl⟩)
set_option maxHeartbeats 1000000 in
theorem rd_is {g : xe_G} {m0 : Nat} {q : Nat → Nat} {z : Nat × Nat} {I : rI} {R : rR} {M : mi_H} {tx : List (List Nat)} {cN : Nat} {A : Nat → Nat} {s : Nat} {l : List Nat} {lk : Nat} (hR : RS g m0 q z I R M)  (hY : SYT tx cN A I R) (hs : s < tx.length ∧ tx.getD s [] = l) (hlk : rlk lk) : pt (mT g) 216 [.ref m0, .int (nI s), .ref (g.2.1 lk)] M (fun v M' => (v = some (.int (nI (eqN l (ltx lk)))) ∧ M = M')) := by
  refine pt_in (b := mb_216 g) rfl (fun kf => ?_)
  show pl (mT g) kf (mb_216 g).2 (0, [(0, .ref m0), (1, .int (nI s)), (2, .ref (g.2.1 lk))], [], M) _
  have hln := hY.ln hs
  have hts := hY.1.2.2
  have hle := lt_len lk hlk
  have hlx := ltx_len lk
  have LL : ∀ (kf : Nat), (∀ (k : Nat), (k ≤ (xe_lt lk).2.2.2.length) → (l.length = (ltx lk).length) → (∀ i, i < k → l.getD i 0 = (ltx lk).getD i 0) →  pl (mT g) kf (mb_216 g).2 (16, [(0, .ref m0), (1, .int (nI s)), (2, .ref (g.2.1 lk)), (3, .int (nI k))], [], M) (fun v M' => (v = some (.int (nI (eqN l (ltx lk)))) ∧ M = M'))) := by
    intro kf
    induction kf with
    | zero => exact (by intros; exact pl_0)
    | succ kf ih =>
      intro k hk hl he
      refine ps_st1 (S' := (17, [(0, .ref m0), (1, .int (nI s)), (2, .ref (g.2.1 lk)), (3, .int (nI k))], [.int (nI k)], M)) rfl rfl rfl ?_
      refine ps_st (S' := (18, [(0, .ref m0), (1, .int (nI s)), (2, .ref (g.2.1 lk)), (3, .int (nI k))], [.ref (g.2.1 lk), .int (nI k)], M)) rfl rfl rfl ?_
      refine pr_slen (lk := lk) (S' := (21, [(0, .ref m0), (1, .int (nI s)), (2, .ref (g.2.1 lk)), (3, .int (nI k))], [.int (nI (xe_lt lk).2.2.2.length), .int (nI k)], M)) rfl hR (hlk) rfl rfl ?_
      refine ps_if2 (S1 := (46, [(0, .ref m0), (1, .int (nI s)), (2, .ref (g.2.1 lk)), (3, .int (nI k))], [], M)) (S2 := (24, [(0, .ref m0), (1, .int (nI s)), (2, .ref (g.2.1 lk)), (3, .int (nI k))], [], M)) rfl rfl rfl (fun c_21 => ?_) (fun c_21 => ?_)
      · have c_21 : (nI (xe_lt lk).2.2.2.length) ≤ (nI k) := of_decide_eq_true c_21
        have n_21 : (xe_lt lk).2.2.2.length ≤ k := (le_nI (p := (xe_lt lk).2.2.2.length) (n := k) (by omega) (by omega)).mp c_21
        refine ps_st (S' := (47, [(0, .ref m0), (1, .int (nI s)), (2, .ref (g.2.1 lk)), (3, .int (nI k))], [.int 1], M)) rfl rfl rfl ?_
        exact ps_ret rfl rfl (⟨congrArg (fun x => some (Value.int (nI x))) (show 1 = eqN l (ltx lk) from by
            unfold eqN
            rw [if_pos (ls_ext hl (fun i hi => he i (by omega)))]), rfl⟩)
      · have c_21 : ¬ ((nI (xe_lt lk).2.2.2.length) ≤ (nI k)) := of_decide_eq_false c_21
        have n_21 : ¬ ((xe_lt lk).2.2.2.length ≤ k) := fun h9 => c_21 ((le_nI (p := (xe_lt lk).2.2.2.length) (n := k) (by omega) (by omega)).mpr h9)
        refine ps_st (S' := (25, [(0, .ref m0), (1, .int (nI s)), (2, .ref (g.2.1 lk)), (3, .int (nI k))], [.ref m0], M)) rfl rfl rfl ?_
        refine ps_st (S' := (26, [(0, .ref m0), (1, .int (nI s)), (2, .ref (g.2.1 lk)), (3, .int (nI k))], [.int (nI s), .ref m0], M)) rfl rfl rfl ?_
        refine ps_st (S' := (27, [(0, .ref m0), (1, .int (nI s)), (2, .ref (g.2.1 lk)), (3, .int (nI k))], [.int (nI k), .int (nI s), .ref m0], M)) rfl rfl rfl ?_
        refine pl_call (a := [.ref m0, .int (nI s), .int (nI k)]) (rest := []) rfl rfl rfl (rd_at (tx := tx) (cN := cN) (A := A) (s := s) (l := l) (k := k) hR hY (hs) (by omega)) (fun v1 M2 q3 => ?_)
        obtain ⟨rfl, rfl⟩ := q3
        show pl _ _ _ (30, [(0, .ref m0), (1, .int (nI s)), (2, .ref (g.2.1 lk)), (3, .int (nI k))], [.int (nI (l.getD k 0))], M) _
        have hc_27 := hY.ch hs (k := k) (by omega)
        refine ps_st (S' := (31, [(0, .ref m0), (1, .int (nI s)), (2, .ref (g.2.1 lk)), (3, .int (nI k))], [.ref (g.2.1 lk), .int (nI (l.getD k 0))], M)) rfl rfl rfl ?_
        refine ps_st (S' := (32, [(0, .ref m0), (1, .int (nI s)), (2, .ref (g.2.1 lk)), (3, .int (nI k))], [.int (nI k), .ref (g.2.1 lk), .int (nI (l.getD k 0))], M)) rfl rfl rfl ?_
        refine pr_schar (lk := lk) (j := k) (S' := (35, [(0, .ref m0), (1, .int (nI s)), (2, .ref (g.2.1 lk)), (3, .int (nI k))], [.int (nI ((ltx lk).getD k 0)), .int (nI (l.getD k 0))], M)) rfl hR (hlk) (by omega) rfl ?_
        have hc9 := ltx_ch7 lk hlk k
        refine ps_if2 (S1 := (40, [(0, .ref m0), (1, .int (nI s)), (2, .ref (g.2.1 lk)), (3, .int (nI k))], [], M)) (S2 := (38, [(0, .ref m0), (1, .int (nI s)), (2, .ref (g.2.1 lk)), (3, .int (nI k))], [], M)) rfl rfl rfl (fun c_35 => ?_) (fun c_35 => ?_)
        · have c_35 : (nI (l.getD k 0)) = (nI ((ltx lk).getD k 0)) := of_decide_eq_true c_35
          have n_35 : l.getD k 0 = (ltx lk).getD k 0 := (eq_nI (p := l.getD k 0) (n := (ltx lk).getD k 0) (by omega) (by omega)).mp c_35
          refine ps_st (S' := (43, [(3, .int ((nI k) + 1)), (0, .ref m0), (1, .int (nI s)), (2, .ref (g.2.1 lk))], [], M)) rfl rfl rfl ?_
          rw [nI_add1 (p := k) (k := 1) (x := 1) rfl (by omega)]
          show pl _ _ _ (_, [(3, .int (nI (k + 1))), (0, .ref m0), (1, .int (nI s)), (2, .ref (g.2.1 lk))], [], M) _
          refine ps_st (S' := (16, [(0, .ref m0), (1, .int (nI s)), (2, .ref (g.2.1 lk)), (3, .int (nI (k + 1)))], [], M)) rfl rfl rfl ?_
          exact ih (k + 1)  (by omega) (hl) (by
              intro i hi
              by_cases e : i = k
              · rw [e]; exact n_35
              · exact he i (by omega))
        · have c_35 : ¬ ((nI (l.getD k 0)) = (nI ((ltx lk).getD k 0))) := of_decide_eq_false c_35
          have n_35 : ¬ (l.getD k 0 = (ltx lk).getD k 0) := fun h9 => c_35 ((eq_nI (p := l.getD k 0) (n := (ltx lk).getD k 0) (by omega) (by omega)).mpr h9)
          refine ps_st (S' := (39, [(0, .ref m0), (1, .int (nI s)), (2, .ref (g.2.1 lk)), (3, .int (nI k))], [.int 0], M)) rfl rfl rfl ?_
          exact ps_ret rfl rfl (⟨congrArg (fun x => some (Value.int (nI x))) (show 0 = eqN l (ltx lk) from by
              unfold eqN
              rw [if_neg (fun h => n_35 (by rw [h]))]), rfl⟩)
  refine ps_st (S' := (1, [(0, .ref m0), (1, .int (nI s)), (2, .ref (g.2.1 lk))], [.ref m0], M)) rfl rfl rfl ?_
  refine ps_st (S' := (2, [(0, .ref m0), (1, .int (nI s)), (2, .ref (g.2.1 lk))], [.int (nI s), .ref m0], M)) rfl rfl rfl ?_
  refine pl_call (a := [.ref m0, .int (nI s)]) (rest := []) rfl rfl rfl (rd_length (tx := tx) (cN := cN) (A := A) (s := s) (l := l) hR hY (hs)) (fun v4 M5 q6 => ?_)
  obtain ⟨rfl, rfl⟩ := q6
  show pl _ _ _ (5, [(0, .ref m0), (1, .int (nI s)), (2, .ref (g.2.1 lk))], [.int (nI (l.length))], M) _
  refine ps_st (S' := (6, [(0, .ref m0), (1, .int (nI s)), (2, .ref (g.2.1 lk))], [.ref (g.2.1 lk), .int (nI (l.length))], M)) rfl rfl rfl ?_
  refine pr_slen (lk := lk) (S' := (9, [(0, .ref m0), (1, .int (nI s)), (2, .ref (g.2.1 lk))], [.int (nI (xe_lt lk).2.2.2.length), .int (nI (l.length))], M)) rfl hR (hlk) rfl rfl ?_
  refine ps_if2 (S1 := (14, [(0, .ref m0), (1, .int (nI s)), (2, .ref (g.2.1 lk))], [], M)) (S2 := (12, [(0, .ref m0), (1, .int (nI s)), (2, .ref (g.2.1 lk))], [], M)) rfl rfl rfl (fun c_9 => ?_) (fun c_9 => ?_)
  · have c_9 : (nI (l.length)) = (nI (xe_lt lk).2.2.2.length) := of_decide_eq_true c_9
    have n_9 : l.length = (xe_lt lk).2.2.2.length := (eq_nI (p := l.length) (n := (xe_lt lk).2.2.2.length) (by omega) (by omega)).mp c_9
    refine ps_st (S' := (15, [(0, .ref m0), (1, .int (nI s)), (2, .ref (g.2.1 lk))], [.int 0], M)) rfl rfl rfl ?_
    refine ps_st (S' := (16, [(0, .ref m0), (1, .int (nI s)), (2, .ref (g.2.1 lk)), (3, .int 0)], [], M)) rfl rfl rfl ?_
    exact (LL kf) (0)  (by omega) (by omega) (fun i hi => by omega)
  · have c_9 : ¬ ((nI (l.length)) = (nI (xe_lt lk).2.2.2.length)) := of_decide_eq_false c_9
    have n_9 : ¬ (l.length = (xe_lt lk).2.2.2.length) := fun h9 => c_9 ((eq_nI (p := l.length) (n := (xe_lt lk).2.2.2.length) (by omega) (by omega)).mpr h9)
    refine ps_st (S' := (13, [(0, .ref m0), (1, .int (nI s)), (2, .ref (g.2.1 lk))], [.int 0], M)) rfl rfl rfl ?_
    exact ps_ret rfl rfl (⟨congrArg (fun x => some (Value.int (nI x))) (show 0 = eqN l (ltx lk) from by
        unfold eqN
        rw [if_neg (fun h => n_9 (by rw [h]; exact hlx))]), rfl⟩)
set_option maxHeartbeats 1000000 in
theorem rd_unq1 {g : xe_G} {m0 : Nat} {q : Nat → Nat} {z : Nat × Nat} {I : rI} {R : rR} {M : mi_H} {tx : List (List Nat)} {cN : Nat} {A : Nat → Nat} {s : Nat} {l : List Nat} (hR : RS g m0 q z I R M)  (hY : SYT tx cN A I R) (hs : s < tx.length ∧ tx.getD s [] = l) : pt (mT g) 251 [.ref m0, .int (nI s), .int 1] M (fun v M' => (v = some (.int (nI (unqN l))) ∧ M = M')) := by
  refine pt_in (b := mb_251 g) rfl (fun kf => ?_)
  show pl (mT g) kf (mb_251 g).2 (0, [(0, .ref m0), (1, .int (nI s)), (2, .int 1)], [], M) _
  have hln := hY.ln hs
  have hts := hY.1.2.2
  have LL : ∀ (kf : Nat), (∀ (k : Nat), (k ≤ l.length) → (∀ i, i < k → ¬ (l.getD i 0 = 46 ∨ l.getD i 0 = 59 ∨ l.getD i 0 = 91 ∨ l.getD i 0 = 47)) →  pl (mT g) kf (mb_251 g).2 (9, [(0, .ref m0), (1, .int (nI s)), (2, .int 1), (3, .int (nI l.length)), (4, .int (nI k))], [], M) (fun v M' => (v = some (.int (nI (unqN l))) ∧ M = M'))) := by
    intro kf
    induction kf with
    | zero => exact (by intros; exact pl_0)
    | succ kf ih =>
      intro k hk he
      refine ps_st1 (S' := (11, [(0, .ref m0), (1, .int (nI s)), (2, .int 1), (3, .int (nI l.length)), (4, .int (nI k))], [.int (nI k)], M)) rfl rfl rfl ?_
      refine ps_st (S' := (12, [(0, .ref m0), (1, .int (nI s)), (2, .int 1), (3, .int (nI l.length)), (4, .int (nI k))], [.int (nI l.length), .int (nI k)], M)) rfl rfl rfl ?_
      refine ps_if2 (S1 := (78, [(0, .ref m0), (1, .int (nI s)), (2, .int 1), (3, .int (nI l.length)), (4, .int (nI k))], [], M)) (S2 := (15, [(0, .ref m0), (1, .int (nI s)), (2, .int 1), (3, .int (nI l.length)), (4, .int (nI k))], [], M)) rfl rfl rfl (fun c_12 => ?_) (fun c_12 => ?_)
      · have c_12 : (nI l.length) ≤ (nI k) := of_decide_eq_true c_12
        have n_12 : l.length ≤ k := (le_nI (p := l.length) (n := k) (by omega) (by omega)).mp c_12
        refine ps_st (S' := (79, [(0, .ref m0), (1, .int (nI s)), (2, .int 1), (3, .int (nI l.length)), (4, .int (nI k))], [.int (nI l.length)], M)) rfl rfl rfl ?_
        refine ps_if (S1 := (86, [(0, .ref m0), (1, .int (nI s)), (2, .int 1), (3, .int (nI l.length)), (4, .int (nI k))], [], M)) (S2 := (82, [(0, .ref m0), (1, .int (nI s)), (2, .int 1), (3, .int (nI l.length)), (4, .int (nI k))], [], M)) rfl rfl rfl (fun c_79 => ?_) (fun c_79 => ?_)
        · have c_79 : (nI l.length) ≤ 0 := of_decide_eq_true c_79
          have n_79 : l.length ≤ 0 := (le_nI (p := l.length) (n := 0) (by omega) (by decide)).mp c_79
          refine ps_st (S' := (87, [], [.int 0], M)) rfl rfl rfl ?_
          exact ps_ret rfl rfl (⟨congrArg (fun x => some (Value.int (nI x))) (show 0 = unqN l from (unq_nil7 (by omega)).symm), rfl⟩)
        · have c_79 : ¬ ((nI l.length) ≤ 0) := of_decide_eq_false c_79
          have n_79 : ¬ (l.length ≤ 0) := fun h9 => c_79 ((le_nI (p := l.length) (n := 0) (by omega) (by decide)).mpr h9)
          refine ps_st (S' := (83, [(0, .ref m0), (1, .int (nI s)), (2, .int 1), (3, .int (nI l.length)), (4, .int (nI k))], [.int 1], M)) rfl rfl rfl ?_
          refine ps_st (S' := (87, [], [.int 1], M)) rfl rfl rfl ?_
          exact ps_ret rfl rfl (⟨congrArg (fun x => some (Value.int (nI x))) (show 1 = unqN l from (unq_ok (by omega) (fun i hi => he i (by omega))).symm), rfl⟩)
      · have c_12 : ¬ ((nI l.length) ≤ (nI k)) := of_decide_eq_false c_12
        have n_12 : ¬ (l.length ≤ k) := fun h9 => c_12 ((le_nI (p := l.length) (n := k) (by omega) (by omega)).mpr h9)
        refine ps_st (S' := (16, [(0, .ref m0), (1, .int (nI s)), (2, .int 1), (3, .int (nI l.length)), (4, .int (nI k))], [.ref m0], M)) rfl rfl rfl ?_
        refine ps_st (S' := (17, [(0, .ref m0), (1, .int (nI s)), (2, .int 1), (3, .int (nI l.length)), (4, .int (nI k))], [.int (nI s), .ref m0], M)) rfl rfl rfl ?_
        refine ps_st (S' := (19, [(0, .ref m0), (1, .int (nI s)), (2, .int 1), (3, .int (nI l.length)), (4, .int (nI k))], [.int (nI k), .int (nI s), .ref m0], M)) rfl rfl rfl ?_
        refine pl_call (a := [.ref m0, .int (nI s), .int (nI k)]) (rest := []) rfl rfl rfl (rd_at (tx := tx) (cN := cN) (A := A) (s := s) (l := l) (k := k) hR hY (hs) (by omega)) (fun v1 M2 q3 => ?_)
        obtain ⟨rfl, rfl⟩ := q3
        show pl _ _ _ (22, [(0, .ref m0), (1, .int (nI s)), (2, .int 1), (3, .int (nI l.length)), (4, .int (nI k))], [.int (nI (l.getD k 0))], M) _
        have hc_19 := hY.ch hs (k := k) (by omega)
        refine ps_st (S' := (24, [(5, .int (nI (l.getD k 0))), (0, .ref m0), (1, .int (nI s)), (2, .int 1), (3, .int (nI l.length)), (4, .int (nI k))], [], M)) rfl rfl rfl ?_
        refine ps_st (S' := (26, [(5, .int (nI (l.getD k 0))), (0, .ref m0), (1, .int (nI s)), (2, .int 1), (3, .int (nI l.length)), (4, .int (nI k))], [.int (nI (l.getD k 0))], M)) rfl rfl rfl ?_
        refine ps_st (S' := (28, [(5, .int (nI (l.getD k 0))), (0, .ref m0), (1, .int (nI s)), (2, .int 1), (3, .int (nI l.length)), (4, .int (nI k))], [.int 46, .int (nI (l.getD k 0))], M)) rfl rfl rfl ?_
        refine ps_if2 (S1 := (70, [], [], M)) (S2 := (31, [(5, .int (nI (l.getD k 0))), (0, .ref m0), (1, .int (nI s)), (2, .int 1), (3, .int (nI l.length)), (4, .int (nI k))], [], M)) rfl rfl rfl (fun c_28 => ?_) (fun c_28 => ?_)
        · have c_28 : (nI (l.getD k 0)) = 46 := of_decide_eq_true c_28
          have n_28 : l.getD k 0 = 46 := (eq_nI (p := l.getD k 0) (n := 46) (by omega) (by decide)).mp c_28
          refine ps_st (S' := (71, [], [.int 0], M)) rfl rfl rfl ?_
          exact ps_ret rfl rfl (⟨congrArg (fun x => some (Value.int (nI x))) (show 0 = unqN l from (unq_no7 (k := k) (by omega) (by omega)).symm), rfl⟩)
        · have c_28 : ¬ ((nI (l.getD k 0)) = 46) := of_decide_eq_false c_28
          have n_28 : ¬ (l.getD k 0 = 46) := fun h9 => c_28 ((eq_nI (p := l.getD k 0) (n := 46) (by omega) (by decide)).mpr h9)
          refine ps_st (S' := (33, [(5, .int (nI (l.getD k 0))), (0, .ref m0), (1, .int (nI s)), (2, .int 1), (3, .int (nI l.length)), (4, .int (nI k))], [.int (nI (l.getD k 0))], M)) rfl rfl rfl ?_
          refine ps_st (S' := (35, [(5, .int (nI (l.getD k 0))), (0, .ref m0), (1, .int (nI s)), (2, .int 1), (3, .int (nI l.length)), (4, .int (nI k))], [.int 59, .int (nI (l.getD k 0))], M)) rfl rfl rfl ?_
          refine ps_if2 (S1 := (70, [], [], M)) (S2 := (38, [(5, .int (nI (l.getD k 0))), (0, .ref m0), (1, .int (nI s)), (2, .int 1), (3, .int (nI l.length)), (4, .int (nI k))], [], M)) rfl rfl rfl (fun c_35 => ?_) (fun c_35 => ?_)
          · have c_35 : (nI (l.getD k 0)) = 59 := of_decide_eq_true c_35
            have n_35 : l.getD k 0 = 59 := (eq_nI (p := l.getD k 0) (n := 59) (by omega) (by decide)).mp c_35
            refine ps_st (S' := (71, [], [.int 0], M)) rfl rfl rfl ?_
            exact ps_ret rfl rfl (⟨congrArg (fun x => some (Value.int (nI x))) (show 0 = unqN l from (unq_no7 (k := k) (by omega) (by omega)).symm), rfl⟩)
          · have c_35 : ¬ ((nI (l.getD k 0)) = 59) := of_decide_eq_false c_35
            have n_35 : ¬ (l.getD k 0 = 59) := fun h9 => c_35 ((eq_nI (p := l.getD k 0) (n := 59) (by omega) (by decide)).mpr h9)
            refine ps_st (S' := (40, [(5, .int (nI (l.getD k 0))), (0, .ref m0), (1, .int (nI s)), (2, .int 1), (3, .int (nI l.length)), (4, .int (nI k))], [.int (nI (l.getD k 0))], M)) rfl rfl rfl ?_
            refine ps_st (S' := (42, [(5, .int (nI (l.getD k 0))), (0, .ref m0), (1, .int (nI s)), (2, .int 1), (3, .int (nI l.length)), (4, .int (nI k))], [.int 91, .int (nI (l.getD k 0))], M)) rfl rfl rfl ?_
            refine ps_if2 (S1 := (70, [], [], M)) (S2 := (45, [(5, .int (nI (l.getD k 0))), (0, .ref m0), (1, .int (nI s)), (2, .int 1), (3, .int (nI l.length)), (4, .int (nI k))], [], M)) rfl rfl rfl (fun c_42 => ?_) (fun c_42 => ?_)
            · have c_42 : (nI (l.getD k 0)) = 91 := of_decide_eq_true c_42
              have n_42 : l.getD k 0 = 91 := (eq_nI (p := l.getD k 0) (n := 91) (by omega) (by decide)).mp c_42
              refine ps_st (S' := (71, [], [.int 0], M)) rfl rfl rfl ?_
              exact ps_ret rfl rfl (⟨congrArg (fun x => some (Value.int (nI x))) (show 0 = unqN l from (unq_no7 (k := k) (by omega) (by omega)).symm), rfl⟩)
            · have c_42 : ¬ ((nI (l.getD k 0)) = 91) := of_decide_eq_false c_42
              have n_42 : ¬ (l.getD k 0 = 91) := fun h9 => c_42 ((eq_nI (p := l.getD k 0) (n := 91) (by omega) (by decide)).mpr h9)
              refine ps_st (S' := (47, [(5, .int (nI (l.getD k 0))), (0, .ref m0), (1, .int (nI s)), (2, .int 1), (3, .int (nI l.length)), (4, .int (nI k))], [.int (nI (l.getD k 0))], M)) rfl rfl rfl ?_
              refine ps_st (S' := (49, [(5, .int (nI (l.getD k 0))), (0, .ref m0), (1, .int (nI s)), (2, .int 1), (3, .int (nI l.length)), (4, .int (nI k))], [.int 47, .int (nI (l.getD k 0))], M)) rfl rfl rfl ?_
              refine ps_if2 (S1 := (70, [], [], M)) (S2 := (52, [(5, .int (nI (l.getD k 0))), (0, .ref m0), (1, .int (nI s)), (2, .int 1), (3, .int (nI l.length)), (4, .int (nI k))], [], M)) rfl rfl rfl (fun c_49 => ?_) (fun c_49 => ?_)
              · have c_49 : (nI (l.getD k 0)) = 47 := of_decide_eq_true c_49
                have n_49 : l.getD k 0 = 47 := (eq_nI (p := l.getD k 0) (n := 47) (by omega) (by decide)).mp c_49
                refine ps_st (S' := (71, [], [.int 0], M)) rfl rfl rfl ?_
                exact ps_ret rfl rfl (⟨congrArg (fun x => some (Value.int (nI x))) (show 0 = unqN l from (unq_no7 (k := k) (by omega) (by omega)).symm), rfl⟩)
              · have c_49 : ¬ ((nI (l.getD k 0)) = 47) := of_decide_eq_false c_49
                have n_49 : ¬ (l.getD k 0 = 47) := fun h9 => c_49 ((eq_nI (p := l.getD k 0) (n := 47) (by omega) (by decide)).mpr h9)
                refine ps_st (S' := (53, [(5, .int (nI (l.getD k 0))), (0, .ref m0), (1, .int (nI s)), (2, .int 1), (3, .int (nI l.length)), (4, .int (nI k))], [.int 1], M)) rfl rfl rfl ?_
                refine ps_if (S1 := (72, [(0, .ref m0), (1, .int (nI s)), (2, .int 1), (3, .int (nI l.length)), (4, .int (nI k))], [], M)) (S2 := (56, [(5, .int (nI (l.getD k 0))), (0, .ref m0), (1, .int (nI s)), (2, .int 1), (3, .int (nI l.length)), (4, .int (nI k))], [], M)) rfl rfl rfl (fun c_53 => ?_) (fun c_53 => ?_)
                rotate_left
                · exact absurd (by decide) (of_decide_eq_false c_53)
                refine ps_st (S' := (75, [(4, .int ((nI k) + 1)), (0, .ref m0), (1, .int (nI s)), (2, .int 1), (3, .int (nI l.length))], [], M)) rfl rfl rfl ?_
                rw [nI_add1 (p := k) (k := 1) (x := 1) rfl (by omega)]
                show pl _ _ _ (_, [(4, .int (nI (k + 1))), (0, .ref m0), (1, .int (nI s)), (2, .int 1), (3, .int (nI l.length))], [], M) _
                refine ps_st (S' := (9, [(0, .ref m0), (1, .int (nI s)), (2, .int 1), (3, .int (nI l.length)), (4, .int (nI (k + 1)))], [], M)) rfl rfl rfl ?_
                exact ih (k + 1)  (by omega) (by
                    intro i hi
                    by_cases e : i = k
                    · rw [e]; omega
                    · exact he i (by omega))
  refine ps_st (S' := (1, [(0, .ref m0), (1, .int (nI s)), (2, .int 1)], [.ref m0], M)) rfl rfl rfl ?_
  refine ps_st (S' := (2, [(0, .ref m0), (1, .int (nI s)), (2, .int 1)], [.int (nI s), .ref m0], M)) rfl rfl rfl ?_
  refine pl_call (a := [.ref m0, .int (nI s)]) (rest := []) rfl rfl rfl (rd_length (tx := tx) (cN := cN) (A := A) (s := s) (l := l) hR hY (hs)) (fun v4 M5 q6 => ?_)
  obtain ⟨rfl, rfl⟩ := q6
  show pl _ _ _ (5, [(0, .ref m0), (1, .int (nI s)), (2, .int 1)], [.int (nI (l.length))], M) _
  refine ps_st (S' := (6, [(3, .int (nI (l.length))), (0, .ref m0), (1, .int (nI s)), (2, .int 1)], [], M)) rfl rfl rfl ?_
  refine ps_st (S' := (7, [(3, .int (nI (l.length))), (0, .ref m0), (1, .int (nI s)), (2, .int 1)], [.int 0], M)) rfl rfl rfl ?_
  refine ps_st (S' := (9, [(0, .ref m0), (1, .int (nI s)), (2, .int 1), (3, .int (nI (l.length))), (4, .int 0)], [], M)) rfl rfl rfl ?_
  exact (LL kf) (0)  (by omega) (fun i hi => by omega)
set_option maxHeartbeats 1000000 in
theorem rd_unq0 {g : xe_G} {m0 : Nat} {q : Nat → Nat} {z : Nat × Nat} {I : rI} {R : rR} {M : mi_H} {tx : List (List Nat)} {cN : Nat} {A : Nat → Nat} {s : Nat} {l : List Nat} (hR : RS g m0 q z I R M)  (hY : SYT tx cN A I R) (hs : s < tx.length ∧ tx.getD s [] = l) : pt (mT g) 251 [.ref m0, .int (nI s), .int 0] M (fun v M' => (v = some (.int (nI (unq0 l))) ∧ M = M')) := by
  refine pt_in (b := mb_251 g) rfl (fun kf => ?_)
  show pl (mT g) kf (mb_251 g).2 (0, [(0, .ref m0), (1, .int (nI s)), (2, .int 0)], [], M) _
  have hln := hY.ln hs
  have hts := hY.1.2.2
  have LL : ∀ (kf : Nat), (∀ (k : Nat), (k ≤ l.length) → (∀ i, i < k → ¬ (l.getD i 0 = 46 ∨ l.getD i 0 = 59 ∨ l.getD i 0 = 91 ∨ l.getD i 0 = 47) ∧ ¬ (l.getD i 0 = 60 ∨ l.getD i 0 = 62)) →  pl (mT g) kf (mb_251 g).2 (9, [(0, .ref m0), (1, .int (nI s)), (2, .int 0), (3, .int (nI l.length)), (4, .int (nI k))], [], M) (fun v M' => (v = some (.int (nI (unq0 l))) ∧ M = M'))) := by
    intro kf
    induction kf with
    | zero => exact (by intros; exact pl_0)
    | succ kf ih =>
      intro k hk he
      refine ps_st1 (S' := (11, [(0, .ref m0), (1, .int (nI s)), (2, .int 0), (3, .int (nI l.length)), (4, .int (nI k))], [.int (nI k)], M)) rfl rfl rfl ?_
      refine ps_st (S' := (12, [(0, .ref m0), (1, .int (nI s)), (2, .int 0), (3, .int (nI l.length)), (4, .int (nI k))], [.int (nI l.length), .int (nI k)], M)) rfl rfl rfl ?_
      refine ps_if2 (S1 := (78, [(0, .ref m0), (1, .int (nI s)), (2, .int 0), (3, .int (nI l.length)), (4, .int (nI k))], [], M)) (S2 := (15, [(0, .ref m0), (1, .int (nI s)), (2, .int 0), (3, .int (nI l.length)), (4, .int (nI k))], [], M)) rfl rfl rfl (fun c_12 => ?_) (fun c_12 => ?_)
      · have c_12 : (nI l.length) ≤ (nI k) := of_decide_eq_true c_12
        have n_12 : l.length ≤ k := (le_nI (p := l.length) (n := k) (by omega) (by omega)).mp c_12
        refine ps_st (S' := (79, [(0, .ref m0), (1, .int (nI s)), (2, .int 0), (3, .int (nI l.length)), (4, .int (nI k))], [.int (nI l.length)], M)) rfl rfl rfl ?_
        refine ps_if (S1 := (86, [(0, .ref m0), (1, .int (nI s)), (2, .int 0), (3, .int (nI l.length)), (4, .int (nI k))], [], M)) (S2 := (82, [(0, .ref m0), (1, .int (nI s)), (2, .int 0), (3, .int (nI l.length)), (4, .int (nI k))], [], M)) rfl rfl rfl (fun c_79 => ?_) (fun c_79 => ?_)
        · have c_79 : (nI l.length) ≤ 0 := of_decide_eq_true c_79
          have n_79 : l.length ≤ 0 := (le_nI (p := l.length) (n := 0) (by omega) (by decide)).mp c_79
          refine ps_st (S' := (87, [], [.int 0], M)) rfl rfl rfl ?_
          exact ps_ret rfl rfl (⟨congrArg (fun x => some (Value.int (nI x))) (show 0 = unq0 l from by
              unfold unq0
              rw [if_neg (fun h => h.1 (unq_nil7 (by omega)))]), rfl⟩)
        · have c_79 : ¬ ((nI l.length) ≤ 0) := of_decide_eq_false c_79
          have n_79 : ¬ (l.length ≤ 0) := fun h9 => c_79 ((le_nI (p := l.length) (n := 0) (by omega) (by decide)).mpr h9)
          refine ps_st (S' := (83, [(0, .ref m0), (1, .int (nI s)), (2, .int 0), (3, .int (nI l.length)), (4, .int (nI k))], [.int 1], M)) rfl rfl rfl ?_
          refine ps_st (S' := (87, [], [.int 1], M)) rfl rfl rfl ?_
          exact ps_ret rfl rfl (⟨congrArg (fun x => some (Value.int (nI x))) (show 1 = unq0 l from by
              unfold unq0
              rw [if_pos ⟨by rw [unq_ok (by omega) (fun i hi => (he i (by omega)).1)]; decide, ang_0 (fun i hi => (he i (by omega)).2)⟩]), rfl⟩)
      · have c_12 : ¬ ((nI l.length) ≤ (nI k)) := of_decide_eq_false c_12
        have n_12 : ¬ (l.length ≤ k) := fun h9 => c_12 ((le_nI (p := l.length) (n := k) (by omega) (by omega)).mpr h9)
        refine ps_st (S' := (16, [(0, .ref m0), (1, .int (nI s)), (2, .int 0), (3, .int (nI l.length)), (4, .int (nI k))], [.ref m0], M)) rfl rfl rfl ?_
        refine ps_st (S' := (17, [(0, .ref m0), (1, .int (nI s)), (2, .int 0), (3, .int (nI l.length)), (4, .int (nI k))], [.int (nI s), .ref m0], M)) rfl rfl rfl ?_
        refine ps_st (S' := (19, [(0, .ref m0), (1, .int (nI s)), (2, .int 0), (3, .int (nI l.length)), (4, .int (nI k))], [.int (nI k), .int (nI s), .ref m0], M)) rfl rfl rfl ?_
        refine pl_call (a := [.ref m0, .int (nI s), .int (nI k)]) (rest := []) rfl rfl rfl (rd_at (tx := tx) (cN := cN) (A := A) (s := s) (l := l) (k := k) hR hY (hs) (by omega)) (fun v1 M2 q3 => ?_)
        obtain ⟨rfl, rfl⟩ := q3
        show pl _ _ _ (22, [(0, .ref m0), (1, .int (nI s)), (2, .int 0), (3, .int (nI l.length)), (4, .int (nI k))], [.int (nI (l.getD k 0))], M) _
        have hc_19 := hY.ch hs (k := k) (by omega)
        refine ps_st (S' := (24, [(5, .int (nI (l.getD k 0))), (0, .ref m0), (1, .int (nI s)), (2, .int 0), (3, .int (nI l.length)), (4, .int (nI k))], [], M)) rfl rfl rfl ?_
        refine ps_st (S' := (26, [(5, .int (nI (l.getD k 0))), (0, .ref m0), (1, .int (nI s)), (2, .int 0), (3, .int (nI l.length)), (4, .int (nI k))], [.int (nI (l.getD k 0))], M)) rfl rfl rfl ?_
        refine ps_st (S' := (28, [(5, .int (nI (l.getD k 0))), (0, .ref m0), (1, .int (nI s)), (2, .int 0), (3, .int (nI l.length)), (4, .int (nI k))], [.int 46, .int (nI (l.getD k 0))], M)) rfl rfl rfl ?_
        refine ps_if2 (S1 := (70, [], [], M)) (S2 := (31, [(5, .int (nI (l.getD k 0))), (0, .ref m0), (1, .int (nI s)), (2, .int 0), (3, .int (nI l.length)), (4, .int (nI k))], [], M)) rfl rfl rfl (fun c_28 => ?_) (fun c_28 => ?_)
        · have c_28 : (nI (l.getD k 0)) = 46 := of_decide_eq_true c_28
          have n_28 : l.getD k 0 = 46 := (eq_nI (p := l.getD k 0) (n := 46) (by omega) (by decide)).mp c_28
          refine ps_st (S' := (71, [], [.int 0], M)) rfl rfl rfl ?_
          exact ps_ret rfl rfl (⟨congrArg (fun x => some (Value.int (nI x))) (show 0 = unq0 l from by
              unfold unq0
              rw [if_neg (fun h => h.1 (unq_no7 (k := k) (by omega) (by omega)))]), rfl⟩)
        · have c_28 : ¬ ((nI (l.getD k 0)) = 46) := of_decide_eq_false c_28
          have n_28 : ¬ (l.getD k 0 = 46) := fun h9 => c_28 ((eq_nI (p := l.getD k 0) (n := 46) (by omega) (by decide)).mpr h9)
          refine ps_st (S' := (33, [(5, .int (nI (l.getD k 0))), (0, .ref m0), (1, .int (nI s)), (2, .int 0), (3, .int (nI l.length)), (4, .int (nI k))], [.int (nI (l.getD k 0))], M)) rfl rfl rfl ?_
          refine ps_st (S' := (35, [(5, .int (nI (l.getD k 0))), (0, .ref m0), (1, .int (nI s)), (2, .int 0), (3, .int (nI l.length)), (4, .int (nI k))], [.int 59, .int (nI (l.getD k 0))], M)) rfl rfl rfl ?_
          refine ps_if2 (S1 := (70, [], [], M)) (S2 := (38, [(5, .int (nI (l.getD k 0))), (0, .ref m0), (1, .int (nI s)), (2, .int 0), (3, .int (nI l.length)), (4, .int (nI k))], [], M)) rfl rfl rfl (fun c_35 => ?_) (fun c_35 => ?_)
          · have c_35 : (nI (l.getD k 0)) = 59 := of_decide_eq_true c_35
            have n_35 : l.getD k 0 = 59 := (eq_nI (p := l.getD k 0) (n := 59) (by omega) (by decide)).mp c_35
            refine ps_st (S' := (71, [], [.int 0], M)) rfl rfl rfl ?_
            exact ps_ret rfl rfl (⟨congrArg (fun x => some (Value.int (nI x))) (show 0 = unq0 l from by
                unfold unq0
                rw [if_neg (fun h => h.1 (unq_no7 (k := k) (by omega) (by omega)))]), rfl⟩)
          · have c_35 : ¬ ((nI (l.getD k 0)) = 59) := of_decide_eq_false c_35
            have n_35 : ¬ (l.getD k 0 = 59) := fun h9 => c_35 ((eq_nI (p := l.getD k 0) (n := 59) (by omega) (by decide)).mpr h9)
            refine ps_st (S' := (40, [(5, .int (nI (l.getD k 0))), (0, .ref m0), (1, .int (nI s)), (2, .int 0), (3, .int (nI l.length)), (4, .int (nI k))], [.int (nI (l.getD k 0))], M)) rfl rfl rfl ?_
            refine ps_st (S' := (42, [(5, .int (nI (l.getD k 0))), (0, .ref m0), (1, .int (nI s)), (2, .int 0), (3, .int (nI l.length)), (4, .int (nI k))], [.int 91, .int (nI (l.getD k 0))], M)) rfl rfl rfl ?_
            refine ps_if2 (S1 := (70, [], [], M)) (S2 := (45, [(5, .int (nI (l.getD k 0))), (0, .ref m0), (1, .int (nI s)), (2, .int 0), (3, .int (nI l.length)), (4, .int (nI k))], [], M)) rfl rfl rfl (fun c_42 => ?_) (fun c_42 => ?_)
            · have c_42 : (nI (l.getD k 0)) = 91 := of_decide_eq_true c_42
              have n_42 : l.getD k 0 = 91 := (eq_nI (p := l.getD k 0) (n := 91) (by omega) (by decide)).mp c_42
              refine ps_st (S' := (71, [], [.int 0], M)) rfl rfl rfl ?_
              exact ps_ret rfl rfl (⟨congrArg (fun x => some (Value.int (nI x))) (show 0 = unq0 l from by
                  unfold unq0
                  rw [if_neg (fun h => h.1 (unq_no7 (k := k) (by omega) (by omega)))]), rfl⟩)
            · have c_42 : ¬ ((nI (l.getD k 0)) = 91) := of_decide_eq_false c_42
              have n_42 : ¬ (l.getD k 0 = 91) := fun h9 => c_42 ((eq_nI (p := l.getD k 0) (n := 91) (by omega) (by decide)).mpr h9)
              refine ps_st (S' := (47, [(5, .int (nI (l.getD k 0))), (0, .ref m0), (1, .int (nI s)), (2, .int 0), (3, .int (nI l.length)), (4, .int (nI k))], [.int (nI (l.getD k 0))], M)) rfl rfl rfl ?_
              refine ps_st (S' := (49, [(5, .int (nI (l.getD k 0))), (0, .ref m0), (1, .int (nI s)), (2, .int 0), (3, .int (nI l.length)), (4, .int (nI k))], [.int 47, .int (nI (l.getD k 0))], M)) rfl rfl rfl ?_
              refine ps_if2 (S1 := (70, [], [], M)) (S2 := (52, [(5, .int (nI (l.getD k 0))), (0, .ref m0), (1, .int (nI s)), (2, .int 0), (3, .int (nI l.length)), (4, .int (nI k))], [], M)) rfl rfl rfl (fun c_49 => ?_) (fun c_49 => ?_)
              · have c_49 : (nI (l.getD k 0)) = 47 := of_decide_eq_true c_49
                have n_49 : l.getD k 0 = 47 := (eq_nI (p := l.getD k 0) (n := 47) (by omega) (by decide)).mp c_49
                refine ps_st (S' := (71, [], [.int 0], M)) rfl rfl rfl ?_
                exact ps_ret rfl rfl (⟨congrArg (fun x => some (Value.int (nI x))) (show 0 = unq0 l from by
                    unfold unq0
                    rw [if_neg (fun h => h.1 (unq_no7 (k := k) (by omega) (by omega)))]), rfl⟩)
              · have c_49 : ¬ ((nI (l.getD k 0)) = 47) := of_decide_eq_false c_49
                have n_49 : ¬ (l.getD k 0 = 47) := fun h9 => c_49 ((eq_nI (p := l.getD k 0) (n := 47) (by omega) (by decide)).mpr h9)
                refine ps_st (S' := (53, [(5, .int (nI (l.getD k 0))), (0, .ref m0), (1, .int (nI s)), (2, .int 0), (3, .int (nI l.length)), (4, .int (nI k))], [.int 0], M)) rfl rfl rfl ?_
                refine ps_if (S1 := (72, [(0, .ref m0), (1, .int (nI s)), (2, .int 0), (3, .int (nI l.length)), (4, .int (nI k))], [], M)) (S2 := (56, [(5, .int (nI (l.getD k 0))), (0, .ref m0), (1, .int (nI s)), (2, .int 0), (3, .int (nI l.length)), (4, .int (nI k))], [], M)) rfl rfl rfl (fun c_53 => ?_) (fun c_53 => ?_)
                · exact absurd (of_decide_eq_true c_53) (by decide)
                refine ps_st (S' := (58, [(5, .int (nI (l.getD k 0))), (0, .ref m0), (1, .int (nI s)), (2, .int 0), (3, .int (nI l.length)), (4, .int (nI k))], [.int (nI (l.getD k 0))], M)) rfl rfl rfl ?_
                refine ps_st (S' := (60, [(5, .int (nI (l.getD k 0))), (0, .ref m0), (1, .int (nI s)), (2, .int 0), (3, .int (nI l.length)), (4, .int (nI k))], [.int 60, .int (nI (l.getD k 0))], M)) rfl rfl rfl ?_
                refine ps_if2 (S1 := (70, [], [], M)) (S2 := (63, [(5, .int (nI (l.getD k 0))), (0, .ref m0), (1, .int (nI s)), (2, .int 0), (3, .int (nI l.length)), (4, .int (nI k))], [], M)) rfl rfl rfl (fun c_60 => ?_) (fun c_60 => ?_)
                · have c_60 : (nI (l.getD k 0)) = 60 := of_decide_eq_true c_60
                  have n_60 : l.getD k 0 = 60 := (eq_nI (p := l.getD k 0) (n := 60) (by omega) (by decide)).mp c_60
                  refine ps_st (S' := (71, [], [.int 0], M)) rfl rfl rfl ?_
                  exact ps_ret rfl rfl (⟨congrArg (fun x => some (Value.int (nI x))) (show 0 = unq0 l from by
                      unfold unq0
                      rw [if_neg (fun h => by rw [ang_1 (k := k) (by omega) (by omega)] at h; exact absurd h.2 (by decide))]), rfl⟩)
                · have c_60 : ¬ ((nI (l.getD k 0)) = 60) := of_decide_eq_false c_60
                  have n_60 : ¬ (l.getD k 0 = 60) := fun h9 => c_60 ((eq_nI (p := l.getD k 0) (n := 60) (by omega) (by decide)).mpr h9)
                  refine ps_st (S' := (65, [(5, .int (nI (l.getD k 0))), (0, .ref m0), (1, .int (nI s)), (2, .int 0), (3, .int (nI l.length)), (4, .int (nI k))], [.int (nI (l.getD k 0))], M)) rfl rfl rfl ?_
                  refine ps_st (S' := (67, [(5, .int (nI (l.getD k 0))), (0, .ref m0), (1, .int (nI s)), (2, .int 0), (3, .int (nI l.length)), (4, .int (nI k))], [.int 62, .int (nI (l.getD k 0))], M)) rfl rfl rfl ?_
                  refine ps_if2 (S1 := (72, [(0, .ref m0), (1, .int (nI s)), (2, .int 0), (3, .int (nI l.length)), (4, .int (nI k))], [], M)) (S2 := (70, [], [], M)) rfl rfl rfl (fun c_67 => ?_) (fun c_67 => ?_)
                  · have c_67 : ¬ (nI (l.getD k 0)) = 62 := of_decide_eq_true c_67
                    have n_67 : ¬ (l.getD k 0 = 62) := fun h9 => c_67 ((eq_nI (p := l.getD k 0) (n := 62) (by omega) (by decide)).mpr h9)
                    refine ps_st (S' := (75, [(4, .int ((nI k) + 1)), (0, .ref m0), (1, .int (nI s)), (2, .int 0), (3, .int (nI l.length))], [], M)) rfl rfl rfl ?_
                    rw [nI_add1 (p := k) (k := 1) (x := 1) rfl (by omega)]
                    show pl _ _ _ (_, [(4, .int (nI (k + 1))), (0, .ref m0), (1, .int (nI s)), (2, .int 0), (3, .int (nI l.length))], [], M) _
                    refine ps_st (S' := (9, [(0, .ref m0), (1, .int (nI s)), (2, .int 0), (3, .int (nI l.length)), (4, .int (nI (k + 1)))], [], M)) rfl rfl rfl ?_
                    exact ih (k + 1)  (by omega) (by
                        intro i hi
                        by_cases e : i = k
                        · rw [e]; omega
                        · exact he i (by omega))
                  · have c_67 : ¬ (¬ (nI (l.getD k 0)) = 62) := of_decide_eq_false c_67
                    have n_67 : l.getD k 0 = 62 := (eq_nI (p := l.getD k 0) (n := 62) (by omega) (by decide)).mp (Decidable.not_not.mp c_67)
                    refine ps_st (S' := (71, [], [.int 0], M)) rfl rfl rfl ?_
                    exact ps_ret rfl rfl (⟨congrArg (fun x => some (Value.int (nI x))) (show 0 = unq0 l from by
                        unfold unq0
                        rw [if_neg (fun h => by rw [ang_1 (k := k) (by omega) (by omega)] at h; exact absurd h.2 (by decide))]), rfl⟩)
  refine ps_st (S' := (1, [(0, .ref m0), (1, .int (nI s)), (2, .int 0)], [.ref m0], M)) rfl rfl rfl ?_
  refine ps_st (S' := (2, [(0, .ref m0), (1, .int (nI s)), (2, .int 0)], [.int (nI s), .ref m0], M)) rfl rfl rfl ?_
  refine pl_call (a := [.ref m0, .int (nI s)]) (rest := []) rfl rfl rfl (rd_length (tx := tx) (cN := cN) (A := A) (s := s) (l := l) hR hY (hs)) (fun v4 M5 q6 => ?_)
  obtain ⟨rfl, rfl⟩ := q6
  show pl _ _ _ (5, [(0, .ref m0), (1, .int (nI s)), (2, .int 0)], [.int (nI (l.length))], M) _
  refine ps_st (S' := (6, [(3, .int (nI (l.length))), (0, .ref m0), (1, .int (nI s)), (2, .int 0)], [], M)) rfl rfl rfl ?_
  refine ps_st (S' := (7, [(3, .int (nI (l.length))), (0, .ref m0), (1, .int (nI s)), (2, .int 0)], [.int 0], M)) rfl rfl rfl ?_
  refine ps_st (S' := (9, [(0, .ref m0), (1, .int (nI s)), (2, .int 0), (3, .int (nI (l.length))), (4, .int 0)], [], M)) rfl rfl rfl ?_
  exact (LL kf) (0)  (by omega) (fun i hi => by omega)
set_option maxHeartbeats 1000000 in
theorem rd_angles {g : xe_G} {m0 : Nat} {q : Nat → Nat} {z : Nat × Nat} {I : rI} {R : rR} {M : mi_H} {tx : List (List Nat)} {cN : Nat} {A : Nat → Nat} {s : Nat} {l : List Nat} (hR : RS g m0 q z I R M)  (hY : SYT tx cN A I R) (hs : s < tx.length ∧ tx.getD s [] = l) : pt (mT g) 175 [.ref m0, .int (nI s)] M (fun v M' => (v = some (.int (nI (angN l))) ∧ M = M')) := by
  refine pt_in (b := mb_175 g) rfl (fun kf => ?_)
  show pl (mT g) kf (mb_175 g).2 (0, [(0, .ref m0), (1, .int (nI s))], [], M) _
  have hln := hY.ln hs
  have hts := hY.1.2.2
  have LL : ∀ (kf : Nat), (∀ (k : Nat), (k ≤ l.length) → (∀ i, i < k → ¬ (l.getD i 0 = 60 ∨ l.getD i 0 = 62)) →  pl (mT g) kf (mb_175 g).2 (2, [(0, .ref m0), (1, .int (nI s)), (2, .int (nI k))], [], M) (fun v M' => (v = some (.int (nI (angN l))) ∧ M = M'))) := by
    intro kf
    induction kf with
    | zero => exact (by intros; exact pl_0)
    | succ kf ih =>
      intro k hk he
      refine ps_st1 (S' := (3, [(0, .ref m0), (1, .int (nI s)), (2, .int (nI k))], [.int (nI k)], M)) rfl rfl rfl ?_
      refine ps_st (S' := (4, [(0, .ref m0), (1, .int (nI s)), (2, .int (nI k))], [.ref m0, .int (nI k)], M)) rfl rfl rfl ?_
      refine ps_st (S' := (5, [(0, .ref m0), (1, .int (nI s)), (2, .int (nI k))], [.int (nI s), .ref m0, .int (nI k)], M)) rfl rfl rfl ?_
      refine pl_call (a := [.ref m0, .int (nI s)]) (rest := [.int (nI k)]) rfl rfl rfl (rd_length (tx := tx) (cN := cN) (A := A) (s := s) (l := l) hR hY (hs)) (fun v1 M2 q3 => ?_)
      obtain ⟨rfl, rfl⟩ := q3
      show pl _ _ _ (8, [(0, .ref m0), (1, .int (nI s)), (2, .int (nI k))], [.int (nI (l.length)), .int (nI k)], M) _
      refine ps_if2 (S1 := (41, [(0, .ref m0), (1, .int (nI s)), (2, .int (nI k))], [], M)) (S2 := (11, [(0, .ref m0), (1, .int (nI s)), (2, .int (nI k))], [], M)) rfl rfl rfl (fun c_8 => ?_) (fun c_8 => ?_)
      · have c_8 : (nI (l.length)) ≤ (nI k) := of_decide_eq_true c_8
        have n_8 : l.length ≤ k := (le_nI (p := l.length) (n := k) (by omega) (by omega)).mp c_8
        refine ps_st (S' := (42, [(0, .ref m0), (1, .int (nI s)), (2, .int (nI k))], [.int 0], M)) rfl rfl rfl ?_
        exact ps_ret rfl rfl (⟨congrArg (fun x => some (Value.int (nI x))) (show 0 = angN l from (ang_0 (fun i hi => he i (by omega))).symm), rfl⟩)
      · have c_8 : ¬ ((nI (l.length)) ≤ (nI k)) := of_decide_eq_false c_8
        have n_8 : ¬ (l.length ≤ k) := fun h9 => c_8 ((le_nI (p := l.length) (n := k) (by omega) (by omega)).mpr h9)
        refine ps_st (S' := (12, [(0, .ref m0), (1, .int (nI s)), (2, .int (nI k))], [.ref m0], M)) rfl rfl rfl ?_
        refine ps_st (S' := (13, [(0, .ref m0), (1, .int (nI s)), (2, .int (nI k))], [.int (nI s), .ref m0], M)) rfl rfl rfl ?_
        refine ps_st (S' := (14, [(0, .ref m0), (1, .int (nI s)), (2, .int (nI k))], [.int (nI k), .int (nI s), .ref m0], M)) rfl rfl rfl ?_
        refine pl_call (a := [.ref m0, .int (nI s), .int (nI k)]) (rest := []) rfl rfl rfl (rd_at (tx := tx) (cN := cN) (A := A) (s := s) (l := l) (k := k) hR hY (hs) (by omega)) (fun v4 M5 q6 => ?_)
        obtain ⟨rfl, rfl⟩ := q6
        show pl _ _ _ (17, [(0, .ref m0), (1, .int (nI s)), (2, .int (nI k))], [.int (nI (l.getD k 0))], M) _
        have hc_14 := hY.ch hs (k := k) (by omega)
        refine ps_st (S' := (19, [(0, .ref m0), (1, .int (nI s)), (2, .int (nI k))], [.int 60, .int (nI (l.getD k 0))], M)) rfl rfl rfl ?_
        refine ps_if2 (S1 := (33, [], [], M)) (S2 := (22, [(0, .ref m0), (1, .int (nI s)), (2, .int (nI k))], [], M)) rfl rfl rfl (fun c_19 => ?_) (fun c_19 => ?_)
        · have c_19 : (nI (l.getD k 0)) = 60 := of_decide_eq_true c_19
          have n_19 : l.getD k 0 = 60 := (eq_nI (p := l.getD k 0) (n := 60) (by omega) (by decide)).mp c_19
          refine ps_st (S' := (34, [], [.int 1], M)) rfl rfl rfl ?_
          exact ps_ret rfl rfl (⟨congrArg (fun x => some (Value.int (nI x))) (show 1 = angN l from (ang_1 (k := k) (by omega) (by omega)).symm), rfl⟩)
        · have c_19 : ¬ ((nI (l.getD k 0)) = 60) := of_decide_eq_false c_19
          have n_19 : ¬ (l.getD k 0 = 60) := fun h9 => c_19 ((eq_nI (p := l.getD k 0) (n := 60) (by omega) (by decide)).mpr h9)
          refine ps_st (S' := (23, [(0, .ref m0), (1, .int (nI s)), (2, .int (nI k))], [.ref m0], M)) rfl rfl rfl ?_
          refine ps_st (S' := (24, [(0, .ref m0), (1, .int (nI s)), (2, .int (nI k))], [.int (nI s), .ref m0], M)) rfl rfl rfl ?_
          refine ps_st (S' := (25, [(0, .ref m0), (1, .int (nI s)), (2, .int (nI k))], [.int (nI k), .int (nI s), .ref m0], M)) rfl rfl rfl ?_
          refine pl_call (a := [.ref m0, .int (nI s), .int (nI k)]) (rest := []) rfl rfl rfl (rd_at (tx := tx) (cN := cN) (A := A) (s := s) (l := l) (k := k) hR hY (hs) (by omega)) (fun v7 M8 q9 => ?_)
          obtain ⟨rfl, rfl⟩ := q9
          show pl _ _ _ (28, [(0, .ref m0), (1, .int (nI s)), (2, .int (nI k))], [.int (nI (l.getD k 0))], M) _
          have hc_25 := hY.ch hs (k := k) (by omega)
          refine ps_st (S' := (30, [(0, .ref m0), (1, .int (nI s)), (2, .int (nI k))], [.int 62, .int (nI (l.getD k 0))], M)) rfl rfl rfl ?_
          refine ps_if2 (S1 := (35, [(0, .ref m0), (1, .int (nI s)), (2, .int (nI k))], [], M)) (S2 := (33, [], [], M)) rfl rfl rfl (fun c_30 => ?_) (fun c_30 => ?_)
          · have c_30 : ¬ (nI (l.getD k 0)) = 62 := of_decide_eq_true c_30
            have n_30 : ¬ (l.getD k 0 = 62) := fun h9 => c_30 ((eq_nI (p := l.getD k 0) (n := 62) (by omega) (by decide)).mpr h9)
            refine ps_st (S' := (38, [(2, .int ((nI k) + 1)), (0, .ref m0), (1, .int (nI s))], [], M)) rfl rfl rfl ?_
            rw [nI_add1 (p := k) (k := 1) (x := 1) rfl (by omega)]
            show pl _ _ _ (_, [(2, .int (nI (k + 1))), (0, .ref m0), (1, .int (nI s))], [], M) _
            refine ps_st (S' := (2, [(0, .ref m0), (1, .int (nI s)), (2, .int (nI (k + 1)))], [], M)) rfl rfl rfl ?_
            exact ih (k + 1)  (by omega) (by
                intro i hi
                by_cases e : i = k
                · rw [e]; omega
                · exact he i (by omega))
          · have c_30 : ¬ (¬ (nI (l.getD k 0)) = 62) := of_decide_eq_false c_30
            have n_30 : l.getD k 0 = 62 := (eq_nI (p := l.getD k 0) (n := 62) (by omega) (by decide)).mp (Decidable.not_not.mp c_30)
            refine ps_st (S' := (34, [], [.int 1], M)) rfl rfl rfl ?_
            exact ps_ret rfl rfl (⟨congrArg (fun x => some (Value.int (nI x))) (show 1 = angN l from (ang_1 (k := k) (by omega) (by omega)).symm), rfl⟩)
  refine ps_st (S' := (1, [(0, .ref m0), (1, .int (nI s))], [.int 0], M)) rfl rfl rfl ?_
  refine ps_st (S' := (2, [(0, .ref m0), (1, .int (nI s)), (2, .int 0)], [], M)) rfl rfl rfl ?_
  exact (LL kf) (0)  (by omega) (fun i hi => by omega)
set_option maxHeartbeats 1000000 in
theorem rd_nameText {g : xe_G} {m0 : Nat} {q : Nat → Nat} {z : Nat × Nat} {I : rI} {R : rR} {M : mi_H} {tx : List (List Nat)} {cN : Nat} {A : Nat → Nat} {s : Nat} {l : List Nat} {a e : Nat} (hR : RS g m0 q z I R M)  (hY : SYT tx cN A I R) (hs : s < tx.length ∧ tx.getD s [] = l) (hae : a ≤ e ∧ e ≤ l.length) : pt (mT g) 226 [.ref m0, .int (nI s), .int (nI a), .int (nI e)] M (fun v M' => (v = some (.int (nI (nmN (fun i => l.getD i 0) a e))) ∧ M = M')) := by
  refine pt_in (b := mb_226 g) rfl (fun kf => ?_)
  show pl (mT g) kf (mb_226 g).2 (0, [(0, .ref m0), (1, .int (nI s)), (2, .int (nI a)), (3, .int (nI e))], [], M) _
  have hln := hY.ln hs
  have hts := hY.1.2.2
  have LL : ∀ (kf : Nat), (∀ (k p : Nat) (la : Int32), (a ≤ k ∧ k ≤ e + 1 ∧ p ≤ k) → (la + 1 = nI p) → (k ≤ e → (s_nm (fun i => l.getD i 0) (e - k) k p = some e ↔ s_nm (fun i => l.getD i 0) (e - a) a a = some e)) → (k = e + 1 → s_nm (fun i => l.getD i 0) (e - a) a a = some e) →  pl (mT g) kf (mb_226 g).2 (8, [(0, .ref m0), (1, .int (nI s)), (3, .int (nI e)), (4, .int la), (5, .int (nI k))], [], M) (fun v M' => (v = some (.int (nI (nmN (fun i => l.getD i 0) a e))) ∧ M = M'))) := by
    intro kf
    induction kf with
    | zero => exact (by intros; exact pl_0)
    | succ kf ih =>
      intro k p la hk hla hm hz
      refine ps_st1 (S' := (10, [(0, .ref m0), (1, .int (nI s)), (3, .int (nI e)), (4, .int la), (5, .int (nI k))], [.int (nI k)], M)) rfl rfl rfl ?_
      refine ps_st (S' := (11, [(0, .ref m0), (1, .int (nI s)), (3, .int (nI e)), (4, .int la), (5, .int (nI k))], [.int (nI e), .int (nI k)], M)) rfl rfl rfl ?_
      refine ps_if2 (S1 := (85, [(0, .ref m0), (1, .int (nI s)), (3, .int (nI e)), (4, .int la), (5, .int (nI k))], [], M)) (S2 := (14, [(0, .ref m0), (1, .int (nI s)), (3, .int (nI e)), (4, .int la), (5, .int (nI k))], [], M)) rfl rfl rfl (fun c_11 => ?_) (fun c_11 => ?_)
      · have c_11 : (nI e) < (nI k) := of_decide_eq_true c_11
        have n_11 : e < k := (lt_nI (p := e) (n := k) (by omega) (by omega)).mp c_11
        refine ps_st (S' := (86, [(0, .ref m0), (1, .int (nI s)), (3, .int (nI e)), (4, .int la), (5, .int (nI k))], [.int 1], M)) rfl rfl rfl ?_
        exact ps_ret rfl rfl (⟨congrArg (fun x => some (Value.int (nI x))) (show 1 = nmN (fun i => l.getD i 0) a e from by
            unfold nmN
            rw [if_pos (hz (by omega))]), rfl⟩)
      · have c_11 : ¬ ((nI e) < (nI k)) := of_decide_eq_false c_11
        have n_11 : ¬ (e < k) := fun h9 => c_11 ((lt_nI (p := e) (n := k) (by omega) (by omega)).mpr h9)
        refine ps_st (S' := (16, [(0, .ref m0), (1, .int (nI s)), (3, .int (nI e)), (4, .int la), (5, .int (nI k))], [.int (nI k)], M)) rfl rfl rfl ?_
        refine ps_st (S' := (17, [(0, .ref m0), (1, .int (nI s)), (3, .int (nI e)), (4, .int la), (5, .int (nI k))], [.int (nI e), .int (nI k)], M)) rfl rfl rfl ?_
        refine ps_if2 (S1 := (30, [(0, .ref m0), (1, .int (nI s)), (3, .int (nI e)), (4, .int la), (5, .int (nI k))], [], M)) (S2 := (20, [(0, .ref m0), (1, .int (nI s)), (3, .int (nI e)), (4, .int la), (5, .int (nI k))], [], M)) rfl rfl rfl (fun c_17 => ?_) (fun c_17 => ?_)
        · have c_17 : (nI e) ≤ (nI k) := of_decide_eq_true c_17
          have n_17 : e ≤ k := (le_nI (p := e) (n := k) (by omega) (by omega)).mp c_17
          refine ps_st (S' := (32, [(0, .ref m0), (1, .int (nI s)), (3, .int (nI e)), (4, .int la), (5, .int (nI k))], [.int 47], M)) rfl rfl rfl ?_
          refine ps_st (S' := (34, [(6, .int 47), (0, .ref m0), (1, .int (nI s)), (3, .int (nI e)), (4, .int la), (5, .int (nI k))], [], M)) rfl rfl rfl ?_
          refine ps_st (S' := (36, [(6, .int 47), (0, .ref m0), (1, .int (nI s)), (3, .int (nI e)), (4, .int la), (5, .int (nI k))], [.int 47], M)) rfl rfl rfl ?_
          refine ps_st (S' := (38, [(6, .int 47), (0, .ref m0), (1, .int (nI s)), (3, .int (nI e)), (4, .int la), (5, .int (nI k))], [.int 46, .int 47], M)) rfl rfl rfl ?_
          refine ps_if2 (S1 := (55, [], [], M)) (S2 := (41, [(6, .int 47), (0, .ref m0), (1, .int (nI s)), (3, .int (nI e)), (4, .int la), (5, .int (nI k))], [], M)) rfl rfl rfl (fun c_38 => ?_) (fun c_38 => ?_)
          · exact absurd (of_decide_eq_true c_38) (by decide)
          refine ps_st (S' := (43, [(6, .int 47), (0, .ref m0), (1, .int (nI s)), (3, .int (nI e)), (4, .int la), (5, .int (nI k))], [.int 47], M)) rfl rfl rfl ?_
          refine ps_st (S' := (45, [(6, .int 47), (0, .ref m0), (1, .int (nI s)), (3, .int (nI e)), (4, .int la), (5, .int (nI k))], [.int 59, .int 47], M)) rfl rfl rfl ?_
          refine ps_if2 (S1 := (55, [], [], M)) (S2 := (48, [(6, .int 47), (0, .ref m0), (1, .int (nI s)), (3, .int (nI e)), (4, .int la), (5, .int (nI k))], [], M)) rfl rfl rfl (fun c_45 => ?_) (fun c_45 => ?_)
          · exact absurd (of_decide_eq_true c_45) (by decide)
          refine ps_st (S' := (50, [(6, .int 47), (0, .ref m0), (1, .int (nI s)), (3, .int (nI e)), (4, .int la), (5, .int (nI k))], [.int 47], M)) rfl rfl rfl ?_
          refine ps_st (S' := (52, [(6, .int 47), (0, .ref m0), (1, .int (nI s)), (3, .int (nI e)), (4, .int la), (5, .int (nI k))], [.int 91, .int 47], M)) rfl rfl rfl ?_
          refine ps_if2 (S1 := (57, [(6, .int 47), (0, .ref m0), (1, .int (nI s)), (3, .int (nI e)), (4, .int la), (5, .int (nI k))], [], M)) (S2 := (55, [], [], M)) rfl rfl rfl (fun c_52 => ?_) (fun c_52 => ?_)
          rotate_left
          · exact absurd (by decide) (of_decide_eq_false c_52)
          refine ps_st (S' := (59, [(6, .int 47), (0, .ref m0), (1, .int (nI s)), (3, .int (nI e)), (4, .int la), (5, .int (nI k))], [.int 47], M)) rfl rfl rfl ?_
          refine ps_st (S' := (61, [(6, .int 47), (0, .ref m0), (1, .int (nI s)), (3, .int (nI e)), (4, .int la), (5, .int (nI k))], [.int 47, .int 47], M)) rfl rfl rfl ?_
          refine ps_if2 (S1 := (79, [(0, .ref m0), (1, .int (nI s)), (3, .int (nI e)), (4, .int la), (5, .int (nI k))], [], M)) (S2 := (64, [(6, .int 47), (0, .ref m0), (1, .int (nI s)), (3, .int (nI e)), (4, .int la), (5, .int (nI k))], [], M)) rfl rfl rfl (fun c_61 => ?_) (fun c_61 => ?_)
          · exact absurd (of_decide_eq_true c_61) (by decide)
          refine ps_st (S' := (66, [(6, .int 47), (0, .ref m0), (1, .int (nI s)), (3, .int (nI e)), (4, .int la), (5, .int (nI k))], [.int (nI k)], M)) rfl rfl rfl ?_
          refine ps_st (S' := (68, [(6, .int 47), (0, .ref m0), (1, .int (nI s)), (3, .int (nI e)), (4, .int la), (5, .int (nI k))], [.int la, .int (nI k)], M)) rfl rfl rfl ?_
          refine ps_st (S' := (69, [(6, .int 47), (0, .ref m0), (1, .int (nI s)), (3, .int (nI e)), (4, .int la), (5, .int (nI k))], [.int 1, .int la, .int (nI k)], M)) rfl rfl rfl ?_
          refine ps_st (S' := (70, [(6, .int 47), (0, .ref m0), (1, .int (nI s)), (3, .int (nI e)), (4, .int la), (5, .int (nI k))], [.int (la + 1), .int (nI k)], M)) rfl rfl rfl ?_
          refine pl_top (x := (la + 1)) (y := (nI p)) (hla) ?_
          refine ps_if2 (S1 := (75, [(6, .int 47), (0, .ref m0), (1, .int (nI s)), (3, .int (nI e)), (4, .int la), (5, .int (nI k))], [], M)) (S2 := (73, [(6, .int 47), (0, .ref m0), (1, .int (nI s)), (3, .int (nI e)), (4, .int la), (5, .int (nI k))], [], M)) rfl rfl rfl (fun c_70 => ?_) (fun c_70 => ?_)
          · have c_70 : ¬ (nI k) = (nI p) := of_decide_eq_true c_70
            have n_70 : ¬ (k = p) := fun h9 => c_70 ((eq_nI (p := k) (n := p) (by omega) (by omega)).mpr h9)
            refine ps_st (S' := (77, [(6, .int 47), (0, .ref m0), (1, .int (nI s)), (3, .int (nI e)), (4, .int la), (5, .int (nI k))], [.int (nI k)], M)) rfl rfl rfl ?_
            refine ps_st (S' := (79, [(0, .ref m0), (1, .int (nI s)), (3, .int (nI e)), (4, .int (nI k)), (5, .int (nI k))], [], M)) rfl rfl rfl ?_
            refine ps_st (S' := (82, [(5, .int ((nI k) + 1)), (0, .ref m0), (1, .int (nI s)), (3, .int (nI e)), (4, .int (nI k))], [], M)) rfl rfl rfl ?_
            rw [nI_add1 (p := k) (k := 1) (x := 1) rfl (by omega)]
            show pl _ _ _ (_, [(5, .int (nI (k + 1))), (0, .ref m0), (1, .int (nI s)), (3, .int (nI e)), (4, .int (nI k))], [], M) _
            refine ps_st (S' := (8, [(0, .ref m0), (1, .int (nI s)), (3, .int (nI e)), (4, .int (nI k)), (5, .int (nI (k + 1)))], [], M)) rfl rfl rfl ?_
            exact ih (k + 1) (k + 1) ((nI k))  (by omega) (nI_add1 rfl (by omega)) (fun h => by omega) (by
                intro _
                have ek : k = e := by omega
                refine (hm (by omega)).mp ?_
                rw [ek, nm_end, if_pos (by omega)])
          · have c_70 : ¬ (¬ (nI k) = (nI p)) := of_decide_eq_false c_70
            have n_70 : k = p := (eq_nI (p := k) (n := p) (by omega) (by omega)).mp (Decidable.not_not.mp c_70)
            refine ps_st (S' := (74, [(6, .int 47), (0, .ref m0), (1, .int (nI s)), (3, .int (nI e)), (4, .int la), (5, .int (nI k))], [.int 0], M)) rfl rfl rfl ?_
            exact ps_ret rfl rfl (⟨congrArg (fun x => some (Value.int (nI x))) (show 0 = nmN (fun i => l.getD i 0) a e from by
                unfold nmN
                have ek : k = e := by omega
                rw [if_neg (fun h => by have h9 := (hm (by omega)).mpr h; rw [ek, nm_end, if_neg (by omega)] at h9; cases h9)]), rfl⟩)
        · have c_17 : ¬ ((nI e) ≤ (nI k)) := of_decide_eq_false c_17
          have n_17 : ¬ (e ≤ k) := fun h9 => c_17 ((le_nI (p := e) (n := k) (by omega) (by omega)).mpr h9)
          refine ps_st (S' := (21, [(0, .ref m0), (1, .int (nI s)), (3, .int (nI e)), (4, .int la), (5, .int (nI k))], [.ref m0], M)) rfl rfl rfl ?_
          refine ps_st (S' := (22, [(0, .ref m0), (1, .int (nI s)), (3, .int (nI e)), (4, .int la), (5, .int (nI k))], [.int (nI s), .ref m0], M)) rfl rfl rfl ?_
          refine ps_st (S' := (24, [(0, .ref m0), (1, .int (nI s)), (3, .int (nI e)), (4, .int la), (5, .int (nI k))], [.int (nI k), .int (nI s), .ref m0], M)) rfl rfl rfl ?_
          refine pl_call (a := [.ref m0, .int (nI s), .int (nI k)]) (rest := []) rfl rfl rfl (rd_at (tx := tx) (cN := cN) (A := A) (s := s) (l := l) (k := k) hR hY (hs) (by omega)) (fun v1 M2 q3 => ?_)
          obtain ⟨rfl, rfl⟩ := q3
          show pl _ _ _ (27, [(0, .ref m0), (1, .int (nI s)), (3, .int (nI e)), (4, .int la), (5, .int (nI k))], [.int (nI (l.getD k 0))], M) _
          have hc_24 := hY.ch hs (k := k) (by omega)
          refine ps_st (S' := (32, [(0, .ref m0), (1, .int (nI s)), (3, .int (nI e)), (4, .int la), (5, .int (nI k))], [.int (nI (l.getD k 0))], M)) rfl rfl rfl ?_
          refine ps_st (S' := (34, [(6, .int (nI (l.getD k 0))), (0, .ref m0), (1, .int (nI s)), (3, .int (nI e)), (4, .int la), (5, .int (nI k))], [], M)) rfl rfl rfl ?_
          refine ps_st (S' := (36, [(6, .int (nI (l.getD k 0))), (0, .ref m0), (1, .int (nI s)), (3, .int (nI e)), (4, .int la), (5, .int (nI k))], [.int (nI (l.getD k 0))], M)) rfl rfl rfl ?_
          refine ps_st (S' := (38, [(6, .int (nI (l.getD k 0))), (0, .ref m0), (1, .int (nI s)), (3, .int (nI e)), (4, .int la), (5, .int (nI k))], [.int 46, .int (nI (l.getD k 0))], M)) rfl rfl rfl ?_
          refine ps_if2 (S1 := (55, [], [], M)) (S2 := (41, [(6, .int (nI (l.getD k 0))), (0, .ref m0), (1, .int (nI s)), (3, .int (nI e)), (4, .int la), (5, .int (nI k))], [], M)) rfl rfl rfl (fun c_38 => ?_) (fun c_38 => ?_)
          · have c_38 : (nI (l.getD k 0)) = 46 := of_decide_eq_true c_38
            have n_38 : l.getD k 0 = 46 := (eq_nI (p := l.getD k 0) (n := 46) (by omega) (by decide)).mp c_38
            refine ps_st (S' := (56, [], [.int 0], M)) rfl rfl rfl ?_
            exact ps_ret rfl rfl (⟨congrArg (fun x => some (Value.int (nI x))) (show 0 = nmN (fun i => l.getD i 0) a e from by
                unfold nmN
                rw [if_neg (fun h => nm_bad (by omega) (by omega) ((hm (by omega)).mpr h))]), rfl⟩)
          · have c_38 : ¬ ((nI (l.getD k 0)) = 46) := of_decide_eq_false c_38
            have n_38 : ¬ (l.getD k 0 = 46) := fun h9 => c_38 ((eq_nI (p := l.getD k 0) (n := 46) (by omega) (by decide)).mpr h9)
            refine ps_st (S' := (43, [(6, .int (nI (l.getD k 0))), (0, .ref m0), (1, .int (nI s)), (3, .int (nI e)), (4, .int la), (5, .int (nI k))], [.int (nI (l.getD k 0))], M)) rfl rfl rfl ?_
            refine ps_st (S' := (45, [(6, .int (nI (l.getD k 0))), (0, .ref m0), (1, .int (nI s)), (3, .int (nI e)), (4, .int la), (5, .int (nI k))], [.int 59, .int (nI (l.getD k 0))], M)) rfl rfl rfl ?_
            refine ps_if2 (S1 := (55, [], [], M)) (S2 := (48, [(6, .int (nI (l.getD k 0))), (0, .ref m0), (1, .int (nI s)), (3, .int (nI e)), (4, .int la), (5, .int (nI k))], [], M)) rfl rfl rfl (fun c_45 => ?_) (fun c_45 => ?_)
            · have c_45 : (nI (l.getD k 0)) = 59 := of_decide_eq_true c_45
              have n_45 : l.getD k 0 = 59 := (eq_nI (p := l.getD k 0) (n := 59) (by omega) (by decide)).mp c_45
              refine ps_st (S' := (56, [], [.int 0], M)) rfl rfl rfl ?_
              exact ps_ret rfl rfl (⟨congrArg (fun x => some (Value.int (nI x))) (show 0 = nmN (fun i => l.getD i 0) a e from by
                  unfold nmN
                  rw [if_neg (fun h => nm_bad (by omega) (by omega) ((hm (by omega)).mpr h))]), rfl⟩)
            · have c_45 : ¬ ((nI (l.getD k 0)) = 59) := of_decide_eq_false c_45
              have n_45 : ¬ (l.getD k 0 = 59) := fun h9 => c_45 ((eq_nI (p := l.getD k 0) (n := 59) (by omega) (by decide)).mpr h9)
              refine ps_st (S' := (50, [(6, .int (nI (l.getD k 0))), (0, .ref m0), (1, .int (nI s)), (3, .int (nI e)), (4, .int la), (5, .int (nI k))], [.int (nI (l.getD k 0))], M)) rfl rfl rfl ?_
              refine ps_st (S' := (52, [(6, .int (nI (l.getD k 0))), (0, .ref m0), (1, .int (nI s)), (3, .int (nI e)), (4, .int la), (5, .int (nI k))], [.int 91, .int (nI (l.getD k 0))], M)) rfl rfl rfl ?_
              refine ps_if2 (S1 := (57, [(6, .int (nI (l.getD k 0))), (0, .ref m0), (1, .int (nI s)), (3, .int (nI e)), (4, .int la), (5, .int (nI k))], [], M)) (S2 := (55, [], [], M)) rfl rfl rfl (fun c_52 => ?_) (fun c_52 => ?_)
              · have c_52 : ¬ (nI (l.getD k 0)) = 91 := of_decide_eq_true c_52
                have n_52 : ¬ (l.getD k 0 = 91) := fun h9 => c_52 ((eq_nI (p := l.getD k 0) (n := 91) (by omega) (by decide)).mpr h9)
                refine ps_st (S' := (59, [(6, .int (nI (l.getD k 0))), (0, .ref m0), (1, .int (nI s)), (3, .int (nI e)), (4, .int la), (5, .int (nI k))], [.int (nI (l.getD k 0))], M)) rfl rfl rfl ?_
                refine ps_st (S' := (61, [(6, .int (nI (l.getD k 0))), (0, .ref m0), (1, .int (nI s)), (3, .int (nI e)), (4, .int la), (5, .int (nI k))], [.int 47, .int (nI (l.getD k 0))], M)) rfl rfl rfl ?_
                refine ps_if2 (S1 := (79, [(0, .ref m0), (1, .int (nI s)), (3, .int (nI e)), (4, .int la), (5, .int (nI k))], [], M)) (S2 := (64, [(6, .int (nI (l.getD k 0))), (0, .ref m0), (1, .int (nI s)), (3, .int (nI e)), (4, .int la), (5, .int (nI k))], [], M)) rfl rfl rfl (fun c_61 => ?_) (fun c_61 => ?_)
                · have c_61 : ¬ (nI (l.getD k 0)) = 47 := of_decide_eq_true c_61
                  have n_61 : ¬ (l.getD k 0 = 47) := fun h9 => c_61 ((eq_nI (p := l.getD k 0) (n := 47) (by omega) (by decide)).mpr h9)
                  refine ps_st (S' := (82, [(5, .int ((nI k) + 1)), (0, .ref m0), (1, .int (nI s)), (3, .int (nI e)), (4, .int la)], [], M)) rfl rfl rfl ?_
                  rw [nI_add1 (p := k) (k := 1) (x := 1) rfl (by omega)]
                  show pl _ _ _ (_, [(5, .int (nI (k + 1))), (0, .ref m0), (1, .int (nI s)), (3, .int (nI e)), (4, .int la)], [], M) _
                  refine ps_st (S' := (8, [(0, .ref m0), (1, .int (nI s)), (3, .int (nI e)), (4, .int la), (5, .int (nI (k + 1)))], [], M)) rfl rfl rfl ?_
                  exact ih (k + 1) (p) (la)  (by omega) (hla) (by
                      intro _
                      rw [← hm (by omega), nm_go (k := k) (p := p) (by omega) (by omega), if_neg (by omega)]) (fun h => by omega)
                · have c_61 : ¬ (¬ (nI (l.getD k 0)) = 47) := of_decide_eq_false c_61
                  have n_61 : l.getD k 0 = 47 := (eq_nI (p := l.getD k 0) (n := 47) (by omega) (by decide)).mp (Decidable.not_not.mp c_61)
                  refine ps_st (S' := (66, [(6, .int (nI (l.getD k 0))), (0, .ref m0), (1, .int (nI s)), (3, .int (nI e)), (4, .int la), (5, .int (nI k))], [.int (nI k)], M)) rfl rfl rfl ?_
                  refine ps_st (S' := (68, [(6, .int (nI (l.getD k 0))), (0, .ref m0), (1, .int (nI s)), (3, .int (nI e)), (4, .int la), (5, .int (nI k))], [.int la, .int (nI k)], M)) rfl rfl rfl ?_
                  refine ps_st (S' := (69, [(6, .int (nI (l.getD k 0))), (0, .ref m0), (1, .int (nI s)), (3, .int (nI e)), (4, .int la), (5, .int (nI k))], [.int 1, .int la, .int (nI k)], M)) rfl rfl rfl ?_
                  refine ps_st (S' := (70, [(6, .int (nI (l.getD k 0))), (0, .ref m0), (1, .int (nI s)), (3, .int (nI e)), (4, .int la), (5, .int (nI k))], [.int (la + 1), .int (nI k)], M)) rfl rfl rfl ?_
                  refine pl_top (x := (la + 1)) (y := (nI p)) (hla) ?_
                  refine ps_if2 (S1 := (75, [(6, .int (nI (l.getD k 0))), (0, .ref m0), (1, .int (nI s)), (3, .int (nI e)), (4, .int la), (5, .int (nI k))], [], M)) (S2 := (73, [(6, .int (nI (l.getD k 0))), (0, .ref m0), (1, .int (nI s)), (3, .int (nI e)), (4, .int la), (5, .int (nI k))], [], M)) rfl rfl rfl (fun c_70 => ?_) (fun c_70 => ?_)
                  · have c_70 : ¬ (nI k) = (nI p) := of_decide_eq_true c_70
                    have n_70 : ¬ (k = p) := fun h9 => c_70 ((eq_nI (p := k) (n := p) (by omega) (by omega)).mpr h9)
                    refine ps_st (S' := (77, [(6, .int (nI (l.getD k 0))), (0, .ref m0), (1, .int (nI s)), (3, .int (nI e)), (4, .int la), (5, .int (nI k))], [.int (nI k)], M)) rfl rfl rfl ?_
                    refine ps_st (S' := (79, [(0, .ref m0), (1, .int (nI s)), (3, .int (nI e)), (4, .int (nI k)), (5, .int (nI k))], [], M)) rfl rfl rfl ?_
                    refine ps_st (S' := (82, [(5, .int ((nI k) + 1)), (0, .ref m0), (1, .int (nI s)), (3, .int (nI e)), (4, .int (nI k))], [], M)) rfl rfl rfl ?_
                    rw [nI_add1 (p := k) (k := 1) (x := 1) rfl (by omega)]
                    show pl _ _ _ (_, [(5, .int (nI (k + 1))), (0, .ref m0), (1, .int (nI s)), (3, .int (nI e)), (4, .int (nI k))], [], M) _
                    refine ps_st (S' := (8, [(0, .ref m0), (1, .int (nI s)), (3, .int (nI e)), (4, .int (nI k)), (5, .int (nI (k + 1)))], [], M)) rfl rfl rfl ?_
                    exact ih (k + 1) (k + 1) ((nI k))  (by omega) (nI_add1 rfl (by omega)) (by
                        intro _
                        rw [← hm (by omega), nm_go (k := k) (p := p) (by omega) (by omega), if_pos (by omega)]) (fun h => by omega)
                  · have c_70 : ¬ (¬ (nI k) = (nI p)) := of_decide_eq_false c_70
                    have n_70 : k = p := (eq_nI (p := k) (n := p) (by omega) (by omega)).mp (Decidable.not_not.mp c_70)
                    refine ps_st (S' := (74, [(6, .int (nI (l.getD k 0))), (0, .ref m0), (1, .int (nI s)), (3, .int (nI e)), (4, .int la), (5, .int (nI k))], [.int 0], M)) rfl rfl rfl ?_
                    exact ps_ret rfl rfl (⟨congrArg (fun x => some (Value.int (nI x))) (show 0 = nmN (fun i => l.getD i 0) a e from by
                        unfold nmN
                        rw [if_neg (fun h => nm_bad (by omega) (by omega) ((hm (by omega)).mpr h))]), rfl⟩)
              · have c_52 : ¬ (¬ (nI (l.getD k 0)) = 91) := of_decide_eq_false c_52
                have n_52 : l.getD k 0 = 91 := (eq_nI (p := l.getD k 0) (n := 91) (by omega) (by decide)).mp (Decidable.not_not.mp c_52)
                refine ps_st (S' := (56, [], [.int 0], M)) rfl rfl rfl ?_
                exact ps_ret rfl rfl (⟨congrArg (fun x => some (Value.int (nI x))) (show 0 = nmN (fun i => l.getD i 0) a e from by
                    unfold nmN
                    rw [if_neg (fun h => nm_bad (by omega) (by omega) ((hm (by omega)).mpr h))]), rfl⟩)
  refine ps_st (S' := (1, [(0, .ref m0), (1, .int (nI s)), (2, .int (nI a)), (3, .int (nI e))], [.int (nI a)], M)) rfl rfl rfl ?_
  refine ps_st (S' := (2, [(0, .ref m0), (1, .int (nI s)), (2, .int (nI a)), (3, .int (nI e))], [.int 1, .int (nI a)], M)) rfl rfl rfl ?_
  refine ps_st (S' := (3, [(0, .ref m0), (1, .int (nI s)), (2, .int (nI a)), (3, .int (nI e))], [.int ((nI a) - 1)], M)) rfl rfl rfl ?_
  refine ps_st (S' := (5, [(4, .int ((nI a) - 1)), (0, .ref m0), (1, .int (nI s)), (2, .int (nI a)), (3, .int (nI e))], [], M)) rfl rfl rfl ?_
  refine ps_st (S' := (6, [(4, .int ((nI a) - 1)), (0, .ref m0), (1, .int (nI s)), (2, .int (nI a)), (3, .int (nI e))], [.int (nI a)], M)) rfl rfl rfl ?_
  refine ps_st (S' := (8, [(0, .ref m0), (1, .int (nI s)), (3, .int (nI e)), (4, .int ((nI a) - 1)), (5, .int (nI a))], [], M)) rfl rfl rfl ?_
  exact (LL kf) (a) (a) (((nI a) - 1))  (by omega) (by rw [Int32.sub_add_cancel]) (fun _ => Iff.rfl) (fun h => by omega)
set_option maxHeartbeats 1000000 in
theorem rd_fieldText {g : xe_G} {m0 : Nat} {q : Nat → Nat} {z : Nat × Nat} {I : rI} {R : rR} {M : mi_H} {tx : List (List Nat)} {cN : Nat} {A : Nat → Nat} {s : Nat} {l : List Nat} {a : Nat} (hR : RS g m0 q z I R M)  (hY : SYT tx cN A I R) (hs : s < tx.length ∧ tx.getD s [] = l) (ha : a ≤ l.length) : pt (mT g) 206 [.ref m0, .int (nI s), .int (nI a)] M (fun v M' => ((s_ty (fun i => l.getD i 0) l.length a = none) ∧ v = some (.int (-1)) ∧ M = M') ∨ (∃ (x : Nat), (s_ty (fun i => l.getD i 0) l.length a = some x) ∧ (a < x ∧ x ≤ l.length) ∧ v = some (.int (nI x)) ∧ M = M')) := by
  refine pt_in (b := mb_206 g) rfl (fun kf => ?_)
  show pl (mT g) kf (mb_206 g).2 (0, [(0, .ref m0), (1, .int (nI s)), (2, .int (nI a))], [], M) _
  have hln := hY.ln hs
  have hts := hY.1.2.2
  have LL : ∀ (kf : Nat), (∀ (k : Nat), (a ≤ k ∧ k ≤ l.length) → (s_br (fun i => l.getD i 0) (l.length - k) k = s_br (fun i => l.getD i 0) (l.length - a) a) →  pl (mT g) kf (mb_206 g).2 (9, [(0, .ref m0), (1, .int (nI s)), (2, .int (nI a)), (3, .int (nI l.length)), (4, .int (nI k))], [], M) (fun v M' => ((s_ty (fun i => l.getD i 0) l.length a = none) ∧ v = some (.int (-1)) ∧ M = M') ∨ (∃ (x : Nat), (s_ty (fun i => l.getD i 0) l.length a = some x) ∧ (a < x ∧ x ≤ l.length) ∧ v = some (.int (nI x)) ∧ M = M'))) ∧ (∀ (k e : Nat), (a ≤ k) → (s_br (fun i => l.getD i 0) (l.length - a) a = k) → (¬ (l.length ≤ k ∨ 255 < k - a)) → (l.getD k 0 = 76) → (k + 1 ≤ e ∧ e ≤ l.length) → (∀ j, k + 1 ≤ j → j < e → ¬ l.getD j 0 = 59) →  pl (mT g) kf (mb_206 g).2 (136, [(0, .ref m0), (1, .int (nI s)), (3, .int (nI l.length)), (4, .int (nI k)), (6, .int (nI e))], [], M) (fun v M' => ((s_ty (fun i => l.getD i 0) l.length a = none) ∧ v = some (.int (-1)) ∧ M = M') ∨ (∃ (x : Nat), (s_ty (fun i => l.getD i 0) l.length a = some x) ∧ (a < x ∧ x ≤ l.length) ∧ v = some (.int (nI x)) ∧ M = M'))) := by
    intro kf
    induction kf with
    | zero => exact ⟨by intros; exact pl_0, by intros; exact pl_0⟩
    | succ kf ih =>
      refine ⟨?_, ?_⟩
      · skip
        intro k hk hb
        refine ps_st1 (S' := (11, [(0, .ref m0), (1, .int (nI s)), (2, .int (nI a)), (3, .int (nI l.length)), (4, .int (nI k))], [.int (nI k)], M)) rfl rfl rfl ?_
        refine ps_st (S' := (12, [(0, .ref m0), (1, .int (nI s)), (2, .int (nI a)), (3, .int (nI l.length)), (4, .int (nI k))], [.int (nI l.length), .int (nI k)], M)) rfl rfl rfl ?_
        refine ps_if2 (S1 := (33, [(0, .ref m0), (1, .int (nI s)), (2, .int (nI a)), (3, .int (nI l.length)), (4, .int (nI k))], [], M)) (S2 := (15, [(0, .ref m0), (1, .int (nI s)), (2, .int (nI a)), (3, .int (nI l.length)), (4, .int (nI k))], [], M)) rfl rfl rfl (fun c_12 => ?_) (fun c_12 => ?_)
        · have c_12 : (nI l.length) ≤ (nI k) := of_decide_eq_true c_12
          have n_12 : l.length ≤ k := (le_nI (p := l.length) (n := k) (by omega) (by omega)).mp c_12
          have hbr : s_br (fun i => l.getD i 0) (l.length - a) a = k := by
            rw [← hb, br_end (by omega)]
          refine ps_st (S' := (35, [(0, .ref m0), (1, .int (nI s)), (2, .int (nI a)), (3, .int (nI l.length)), (4, .int (nI k))], [.int (nI k)], M)) rfl rfl rfl ?_
          refine ps_st (S' := (36, [(0, .ref m0), (1, .int (nI s)), (2, .int (nI a)), (3, .int (nI l.length)), (4, .int (nI k))], [.int (nI a), .int (nI k)], M)) rfl rfl rfl ?_
          refine ps_st (S' := (37, [(0, .ref m0), (1, .int (nI s)), (2, .int (nI a)), (3, .int (nI l.length)), (4, .int (nI k))], [.int ((nI k) - (nI a))], M)) rfl rfl rfl ?_
          refine ps_st (S' := (40, [(0, .ref m0), (1, .int (nI s)), (2, .int (nI a)), (3, .int (nI l.length)), (4, .int (nI k))], [.int 255, .int ((nI k) - (nI a))], M)) rfl rfl rfl ?_
          refine ps_if2 (S1 := (49, [], [], M)) (S2 := (43, [(0, .ref m0), (1, .int (nI s)), (2, .int (nI a)), (3, .int (nI l.length)), (4, .int (nI k))], [], M)) rfl rfl rfl (fun c_40 => ?_) (fun c_40 => ?_)
          · have c_40 : 255 < ((nI k) - (nI a)) := of_decide_eq_true c_40
            have n_40 : 255 + a < k := (lt_sub1 (e := k) (p := a) (k := 255) (by omega) (by omega) (by omega)).mp c_40
            refine ps_st (S' := (50, [], [.int (-1)], M)) rfl rfl rfl ?_
            exact ps_ret rfl rfl (Or.inl ⟨ty_1 hbr (by omega), rfl, rfl⟩)
          · have c_40 : ¬ (255 < ((nI k) - (nI a))) := of_decide_eq_false c_40
            have n_40 : ¬ (255 + a < k) := fun h8 => c_40 ((lt_sub1 (e := k) (p := a) (k := 255) (by omega) (by omega) (by omega)).mpr h8)
            refine ps_st (S' := (45, [(0, .ref m0), (1, .int (nI s)), (2, .int (nI a)), (3, .int (nI l.length)), (4, .int (nI k))], [.int (nI k)], M)) rfl rfl rfl ?_
            refine ps_st (S' := (46, [(0, .ref m0), (1, .int (nI s)), (2, .int (nI a)), (3, .int (nI l.length)), (4, .int (nI k))], [.int (nI l.length), .int (nI k)], M)) rfl rfl rfl ?_
            refine ps_if2 (S1 := (51, [(0, .ref m0), (1, .int (nI s)), (2, .int (nI a)), (3, .int (nI l.length)), (4, .int (nI k))], [], M)) (S2 := (49, [], [], M)) rfl rfl rfl (fun c_46 => ?_) (fun c_46 => ?_)
            · have c_46 : (nI k) < (nI l.length) := of_decide_eq_true c_46
              have n_46 : k < l.length := (lt_nI (p := k) (n := l.length) (by omega) (by omega)).mp c_46
              refine ps_st (S' := (52, [(0, .ref m0), (1, .int (nI s)), (2, .int (nI a)), (3, .int (nI l.length)), (4, .int (nI k))], [.ref m0], M)) rfl rfl rfl ?_
              refine ps_st (S' := (53, [(0, .ref m0), (1, .int (nI s)), (2, .int (nI a)), (3, .int (nI l.length)), (4, .int (nI k))], [.int (nI s), .ref m0], M)) rfl rfl rfl ?_
              refine ps_st (S' := (55, [(0, .ref m0), (1, .int (nI s)), (2, .int (nI a)), (3, .int (nI l.length)), (4, .int (nI k))], [.int (nI k), .int (nI s), .ref m0], M)) rfl rfl rfl ?_
              refine pl_call (a := [.ref m0, .int (nI s), .int (nI k)]) (rest := []) rfl rfl rfl (rd_at (tx := tx) (cN := cN) (A := A) (s := s) (l := l) (k := k) hR hY (hs) (by omega)) (fun v1 M2 q3 => ?_)
              obtain ⟨rfl, rfl⟩ := q3
              show pl _ _ _ (58, [(0, .ref m0), (1, .int (nI s)), (2, .int (nI a)), (3, .int (nI l.length)), (4, .int (nI k))], [.int (nI (l.getD k 0))], M) _
              have hc_55 := hY.ch hs (k := k) (by omega)
              refine ps_st (S' := (60, [(5, .int (nI (l.getD k 0))), (0, .ref m0), (1, .int (nI s)), (2, .int (nI a)), (3, .int (nI l.length)), (4, .int (nI k))], [], M)) rfl rfl rfl ?_
              refine ps_st (S' := (62, [(5, .int (nI (l.getD k 0))), (0, .ref m0), (1, .int (nI s)), (2, .int (nI a)), (3, .int (nI l.length)), (4, .int (nI k))], [.int (nI (l.getD k 0))], M)) rfl rfl rfl ?_
              refine ps_st (S' := (64, [(5, .int (nI (l.getD k 0))), (0, .ref m0), (1, .int (nI s)), (2, .int (nI a)), (3, .int (nI l.length)), (4, .int (nI k))], [.int 66, .int (nI (l.getD k 0))], M)) rfl rfl rfl ?_
              refine ps_if2 (S1 := (116, [(4, .int (nI k))], [], M)) (S2 := (67, [(5, .int (nI (l.getD k 0))), (0, .ref m0), (1, .int (nI s)), (2, .int (nI a)), (3, .int (nI l.length)), (4, .int (nI k))], [], M)) rfl rfl rfl (fun c_64 => ?_) (fun c_64 => ?_)
              · have c_64 : (nI (l.getD k 0)) = 66 := of_decide_eq_true c_64
                have n_64 : l.getD k 0 = 66 := (eq_nI (p := l.getD k 0) (n := 66) (by omega) (by decide)).mp c_64
                refine ps_st (S' := (118, [(4, .int (nI k))], [.int (nI k)], M)) rfl rfl rfl ?_
                refine ps_st (S' := (119, [(4, .int (nI k))], [.int 1, .int (nI k)], M)) rfl rfl rfl ?_
                refine ps_st (S' := (120, [(4, .int (nI k))], [.int ((nI k) + 1)], M)) rfl rfl rfl ?_
                rw [nI_add1 (p := k) (k := 1) (x := 1) rfl (by omega)]
                show pl _ _ _ (_, [(4, .int (nI k))], [.int (nI (k + 1))], M) _
                exact ps_reti rfl (Or.inr ⟨k + 1, ty_p hbr (by omega) (by omega), by omega, rfl, rfl⟩)
              · have c_64 : ¬ ((nI (l.getD k 0)) = 66) := of_decide_eq_false c_64
                have n_64 : ¬ (l.getD k 0 = 66) := fun h9 => c_64 ((eq_nI (p := l.getD k 0) (n := 66) (by omega) (by decide)).mpr h9)
                refine ps_st (S' := (69, [(5, .int (nI (l.getD k 0))), (0, .ref m0), (1, .int (nI s)), (2, .int (nI a)), (3, .int (nI l.length)), (4, .int (nI k))], [.int (nI (l.getD k 0))], M)) rfl rfl rfl ?_
                refine ps_st (S' := (71, [(5, .int (nI (l.getD k 0))), (0, .ref m0), (1, .int (nI s)), (2, .int (nI a)), (3, .int (nI l.length)), (4, .int (nI k))], [.int 67, .int (nI (l.getD k 0))], M)) rfl rfl rfl ?_
                refine ps_if2 (S1 := (116, [(4, .int (nI k))], [], M)) (S2 := (74, [(5, .int (nI (l.getD k 0))), (0, .ref m0), (1, .int (nI s)), (2, .int (nI a)), (3, .int (nI l.length)), (4, .int (nI k))], [], M)) rfl rfl rfl (fun c_71 => ?_) (fun c_71 => ?_)
                · have c_71 : (nI (l.getD k 0)) = 67 := of_decide_eq_true c_71
                  have n_71 : l.getD k 0 = 67 := (eq_nI (p := l.getD k 0) (n := 67) (by omega) (by decide)).mp c_71
                  refine ps_st (S' := (118, [(4, .int (nI k))], [.int (nI k)], M)) rfl rfl rfl ?_
                  refine ps_st (S' := (119, [(4, .int (nI k))], [.int 1, .int (nI k)], M)) rfl rfl rfl ?_
                  refine ps_st (S' := (120, [(4, .int (nI k))], [.int ((nI k) + 1)], M)) rfl rfl rfl ?_
                  rw [nI_add1 (p := k) (k := 1) (x := 1) rfl (by omega)]
                  show pl _ _ _ (_, [(4, .int (nI k))], [.int (nI (k + 1))], M) _
                  exact ps_reti rfl (Or.inr ⟨k + 1, ty_p hbr (by omega) (by omega), by omega, rfl, rfl⟩)
                · have c_71 : ¬ ((nI (l.getD k 0)) = 67) := of_decide_eq_false c_71
                  have n_71 : ¬ (l.getD k 0 = 67) := fun h9 => c_71 ((eq_nI (p := l.getD k 0) (n := 67) (by omega) (by decide)).mpr h9)
                  refine ps_st (S' := (76, [(5, .int (nI (l.getD k 0))), (0, .ref m0), (1, .int (nI s)), (2, .int (nI a)), (3, .int (nI l.length)), (4, .int (nI k))], [.int (nI (l.getD k 0))], M)) rfl rfl rfl ?_
                  refine ps_st (S' := (78, [(5, .int (nI (l.getD k 0))), (0, .ref m0), (1, .int (nI s)), (2, .int (nI a)), (3, .int (nI l.length)), (4, .int (nI k))], [.int 68, .int (nI (l.getD k 0))], M)) rfl rfl rfl ?_
                  refine ps_if2 (S1 := (116, [(4, .int (nI k))], [], M)) (S2 := (81, [(5, .int (nI (l.getD k 0))), (0, .ref m0), (1, .int (nI s)), (2, .int (nI a)), (3, .int (nI l.length)), (4, .int (nI k))], [], M)) rfl rfl rfl (fun c_78 => ?_) (fun c_78 => ?_)
                  · have c_78 : (nI (l.getD k 0)) = 68 := of_decide_eq_true c_78
                    have n_78 : l.getD k 0 = 68 := (eq_nI (p := l.getD k 0) (n := 68) (by omega) (by decide)).mp c_78
                    refine ps_st (S' := (118, [(4, .int (nI k))], [.int (nI k)], M)) rfl rfl rfl ?_
                    refine ps_st (S' := (119, [(4, .int (nI k))], [.int 1, .int (nI k)], M)) rfl rfl rfl ?_
                    refine ps_st (S' := (120, [(4, .int (nI k))], [.int ((nI k) + 1)], M)) rfl rfl rfl ?_
                    rw [nI_add1 (p := k) (k := 1) (x := 1) rfl (by omega)]
                    show pl _ _ _ (_, [(4, .int (nI k))], [.int (nI (k + 1))], M) _
                    exact ps_reti rfl (Or.inr ⟨k + 1, ty_p hbr (by omega) (by omega), by omega, rfl, rfl⟩)
                  · have c_78 : ¬ ((nI (l.getD k 0)) = 68) := of_decide_eq_false c_78
                    have n_78 : ¬ (l.getD k 0 = 68) := fun h9 => c_78 ((eq_nI (p := l.getD k 0) (n := 68) (by omega) (by decide)).mpr h9)
                    refine ps_st (S' := (83, [(5, .int (nI (l.getD k 0))), (0, .ref m0), (1, .int (nI s)), (2, .int (nI a)), (3, .int (nI l.length)), (4, .int (nI k))], [.int (nI (l.getD k 0))], M)) rfl rfl rfl ?_
                    refine ps_st (S' := (85, [(5, .int (nI (l.getD k 0))), (0, .ref m0), (1, .int (nI s)), (2, .int (nI a)), (3, .int (nI l.length)), (4, .int (nI k))], [.int 70, .int (nI (l.getD k 0))], M)) rfl rfl rfl ?_
                    refine ps_if2 (S1 := (116, [(4, .int (nI k))], [], M)) (S2 := (88, [(5, .int (nI (l.getD k 0))), (0, .ref m0), (1, .int (nI s)), (2, .int (nI a)), (3, .int (nI l.length)), (4, .int (nI k))], [], M)) rfl rfl rfl (fun c_85 => ?_) (fun c_85 => ?_)
                    · have c_85 : (nI (l.getD k 0)) = 70 := of_decide_eq_true c_85
                      have n_85 : l.getD k 0 = 70 := (eq_nI (p := l.getD k 0) (n := 70) (by omega) (by decide)).mp c_85
                      refine ps_st (S' := (118, [(4, .int (nI k))], [.int (nI k)], M)) rfl rfl rfl ?_
                      refine ps_st (S' := (119, [(4, .int (nI k))], [.int 1, .int (nI k)], M)) rfl rfl rfl ?_
                      refine ps_st (S' := (120, [(4, .int (nI k))], [.int ((nI k) + 1)], M)) rfl rfl rfl ?_
                      rw [nI_add1 (p := k) (k := 1) (x := 1) rfl (by omega)]
                      show pl _ _ _ (_, [(4, .int (nI k))], [.int (nI (k + 1))], M) _
                      exact ps_reti rfl (Or.inr ⟨k + 1, ty_p hbr (by omega) (by omega), by omega, rfl, rfl⟩)
                    · have c_85 : ¬ ((nI (l.getD k 0)) = 70) := of_decide_eq_false c_85
                      have n_85 : ¬ (l.getD k 0 = 70) := fun h9 => c_85 ((eq_nI (p := l.getD k 0) (n := 70) (by omega) (by decide)).mpr h9)
                      refine ps_st (S' := (90, [(5, .int (nI (l.getD k 0))), (0, .ref m0), (1, .int (nI s)), (2, .int (nI a)), (3, .int (nI l.length)), (4, .int (nI k))], [.int (nI (l.getD k 0))], M)) rfl rfl rfl ?_
                      refine ps_st (S' := (92, [(5, .int (nI (l.getD k 0))), (0, .ref m0), (1, .int (nI s)), (2, .int (nI a)), (3, .int (nI l.length)), (4, .int (nI k))], [.int 73, .int (nI (l.getD k 0))], M)) rfl rfl rfl ?_
                      refine ps_if2 (S1 := (116, [(4, .int (nI k))], [], M)) (S2 := (95, [(5, .int (nI (l.getD k 0))), (0, .ref m0), (1, .int (nI s)), (2, .int (nI a)), (3, .int (nI l.length)), (4, .int (nI k))], [], M)) rfl rfl rfl (fun c_92 => ?_) (fun c_92 => ?_)
                      · have c_92 : (nI (l.getD k 0)) = 73 := of_decide_eq_true c_92
                        have n_92 : l.getD k 0 = 73 := (eq_nI (p := l.getD k 0) (n := 73) (by omega) (by decide)).mp c_92
                        refine ps_st (S' := (118, [(4, .int (nI k))], [.int (nI k)], M)) rfl rfl rfl ?_
                        refine ps_st (S' := (119, [(4, .int (nI k))], [.int 1, .int (nI k)], M)) rfl rfl rfl ?_
                        refine ps_st (S' := (120, [(4, .int (nI k))], [.int ((nI k) + 1)], M)) rfl rfl rfl ?_
                        rw [nI_add1 (p := k) (k := 1) (x := 1) rfl (by omega)]
                        show pl _ _ _ (_, [(4, .int (nI k))], [.int (nI (k + 1))], M) _
                        exact ps_reti rfl (Or.inr ⟨k + 1, ty_p hbr (by omega) (by omega), by omega, rfl, rfl⟩)
                      · have c_92 : ¬ ((nI (l.getD k 0)) = 73) := of_decide_eq_false c_92
                        have n_92 : ¬ (l.getD k 0 = 73) := fun h9 => c_92 ((eq_nI (p := l.getD k 0) (n := 73) (by omega) (by decide)).mpr h9)
                        refine ps_st (S' := (97, [(5, .int (nI (l.getD k 0))), (0, .ref m0), (1, .int (nI s)), (2, .int (nI a)), (3, .int (nI l.length)), (4, .int (nI k))], [.int (nI (l.getD k 0))], M)) rfl rfl rfl ?_
                        refine ps_st (S' := (99, [(5, .int (nI (l.getD k 0))), (0, .ref m0), (1, .int (nI s)), (2, .int (nI a)), (3, .int (nI l.length)), (4, .int (nI k))], [.int 74, .int (nI (l.getD k 0))], M)) rfl rfl rfl ?_
                        refine ps_if2 (S1 := (116, [(4, .int (nI k))], [], M)) (S2 := (102, [(5, .int (nI (l.getD k 0))), (0, .ref m0), (1, .int (nI s)), (2, .int (nI a)), (3, .int (nI l.length)), (4, .int (nI k))], [], M)) rfl rfl rfl (fun c_99 => ?_) (fun c_99 => ?_)
                        · have c_99 : (nI (l.getD k 0)) = 74 := of_decide_eq_true c_99
                          have n_99 : l.getD k 0 = 74 := (eq_nI (p := l.getD k 0) (n := 74) (by omega) (by decide)).mp c_99
                          refine ps_st (S' := (118, [(4, .int (nI k))], [.int (nI k)], M)) rfl rfl rfl ?_
                          refine ps_st (S' := (119, [(4, .int (nI k))], [.int 1, .int (nI k)], M)) rfl rfl rfl ?_
                          refine ps_st (S' := (120, [(4, .int (nI k))], [.int ((nI k) + 1)], M)) rfl rfl rfl ?_
                          rw [nI_add1 (p := k) (k := 1) (x := 1) rfl (by omega)]
                          show pl _ _ _ (_, [(4, .int (nI k))], [.int (nI (k + 1))], M) _
                          exact ps_reti rfl (Or.inr ⟨k + 1, ty_p hbr (by omega) (by omega), by omega, rfl, rfl⟩)
                        · have c_99 : ¬ ((nI (l.getD k 0)) = 74) := of_decide_eq_false c_99
                          have n_99 : ¬ (l.getD k 0 = 74) := fun h9 => c_99 ((eq_nI (p := l.getD k 0) (n := 74) (by omega) (by decide)).mpr h9)
                          refine ps_st (S' := (104, [(5, .int (nI (l.getD k 0))), (0, .ref m0), (1, .int (nI s)), (2, .int (nI a)), (3, .int (nI l.length)), (4, .int (nI k))], [.int (nI (l.getD k 0))], M)) rfl rfl rfl ?_
                          refine ps_st (S' := (106, [(5, .int (nI (l.getD k 0))), (0, .ref m0), (1, .int (nI s)), (2, .int (nI a)), (3, .int (nI l.length)), (4, .int (nI k))], [.int 83, .int (nI (l.getD k 0))], M)) rfl rfl rfl ?_
                          refine ps_if2 (S1 := (116, [(4, .int (nI k))], [], M)) (S2 := (109, [(5, .int (nI (l.getD k 0))), (0, .ref m0), (1, .int (nI s)), (2, .int (nI a)), (3, .int (nI l.length)), (4, .int (nI k))], [], M)) rfl rfl rfl (fun c_106 => ?_) (fun c_106 => ?_)
                          · have c_106 : (nI (l.getD k 0)) = 83 := of_decide_eq_true c_106
                            have n_106 : l.getD k 0 = 83 := (eq_nI (p := l.getD k 0) (n := 83) (by omega) (by decide)).mp c_106
                            refine ps_st (S' := (118, [(4, .int (nI k))], [.int (nI k)], M)) rfl rfl rfl ?_
                            refine ps_st (S' := (119, [(4, .int (nI k))], [.int 1, .int (nI k)], M)) rfl rfl rfl ?_
                            refine ps_st (S' := (120, [(4, .int (nI k))], [.int ((nI k) + 1)], M)) rfl rfl rfl ?_
                            rw [nI_add1 (p := k) (k := 1) (x := 1) rfl (by omega)]
                            show pl _ _ _ (_, [(4, .int (nI k))], [.int (nI (k + 1))], M) _
                            exact ps_reti rfl (Or.inr ⟨k + 1, ty_p hbr (by omega) (by omega), by omega, rfl, rfl⟩)
                          · have c_106 : ¬ ((nI (l.getD k 0)) = 83) := of_decide_eq_false c_106
                            have n_106 : ¬ (l.getD k 0 = 83) := fun h9 => c_106 ((eq_nI (p := l.getD k 0) (n := 83) (by omega) (by decide)).mpr h9)
                            refine ps_st (S' := (111, [(5, .int (nI (l.getD k 0))), (0, .ref m0), (1, .int (nI s)), (2, .int (nI a)), (3, .int (nI l.length)), (4, .int (nI k))], [.int (nI (l.getD k 0))], M)) rfl rfl rfl ?_
                            refine ps_st (S' := (113, [(5, .int (nI (l.getD k 0))), (0, .ref m0), (1, .int (nI s)), (2, .int (nI a)), (3, .int (nI l.length)), (4, .int (nI k))], [.int 90, .int (nI (l.getD k 0))], M)) rfl rfl rfl ?_
                            refine ps_if2 (S1 := (121, [(5, .int (nI (l.getD k 0))), (0, .ref m0), (1, .int (nI s)), (2, .int (nI a)), (3, .int (nI l.length)), (4, .int (nI k))], [], M)) (S2 := (116, [(4, .int (nI k))], [], M)) rfl rfl rfl (fun c_113 => ?_) (fun c_113 => ?_)
                            · have c_113 : ¬ (nI (l.getD k 0)) = 90 := of_decide_eq_true c_113
                              have n_113 : ¬ (l.getD k 0 = 90) := fun h9 => c_113 ((eq_nI (p := l.getD k 0) (n := 90) (by omega) (by decide)).mpr h9)
                              refine ps_st (S' := (123, [(5, .int (nI (l.getD k 0))), (0, .ref m0), (1, .int (nI s)), (2, .int (nI a)), (3, .int (nI l.length)), (4, .int (nI k))], [.int (nI (l.getD k 0))], M)) rfl rfl rfl ?_
                              refine ps_st (S' := (125, [(5, .int (nI (l.getD k 0))), (0, .ref m0), (1, .int (nI s)), (2, .int (nI a)), (3, .int (nI l.length)), (4, .int (nI k))], [.int 76, .int (nI (l.getD k 0))], M)) rfl rfl rfl ?_
                              refine ps_if2 (S1 := (130, [(5, .int (nI (l.getD k 0))), (0, .ref m0), (1, .int (nI s)), (2, .int (nI a)), (3, .int (nI l.length)), (4, .int (nI k))], [], M)) (S2 := (128, [(5, .int (nI (l.getD k 0))), (0, .ref m0), (1, .int (nI s)), (2, .int (nI a)), (3, .int (nI l.length)), (4, .int (nI k))], [], M)) rfl rfl rfl (fun c_125 => ?_) (fun c_125 => ?_)
                              · have c_125 : (nI (l.getD k 0)) = 76 := of_decide_eq_true c_125
                                have n_125 : l.getD k 0 = 76 := (eq_nI (p := l.getD k 0) (n := 76) (by omega) (by decide)).mp c_125
                                refine ps_st (S' := (132, [(5, .int (nI (l.getD k 0))), (0, .ref m0), (1, .int (nI s)), (2, .int (nI a)), (3, .int (nI l.length)), (4, .int (nI k))], [.int (nI k)], M)) rfl rfl rfl ?_
                                refine ps_st (S' := (133, [(5, .int (nI (l.getD k 0))), (0, .ref m0), (1, .int (nI s)), (2, .int (nI a)), (3, .int (nI l.length)), (4, .int (nI k))], [.int 1, .int (nI k)], M)) rfl rfl rfl ?_
                                refine ps_st (S' := (134, [(5, .int (nI (l.getD k 0))), (0, .ref m0), (1, .int (nI s)), (2, .int (nI a)), (3, .int (nI l.length)), (4, .int (nI k))], [.int ((nI k) + 1)], M)) rfl rfl rfl ?_
                                rw [nI_add1 (p := k) (k := 1) (x := 1) rfl (by omega)]
                                show pl _ _ _ (_, [(5, .int (nI (l.getD k 0))), (0, .ref m0), (1, .int (nI s)), (2, .int (nI a)), (3, .int (nI l.length)), (4, .int (nI k))], [.int (nI (k + 1))], M) _
                                refine ps_st (S' := (136, [(0, .ref m0), (1, .int (nI s)), (3, .int (nI l.length)), (4, .int (nI k)), (6, .int (nI (k + 1)))], [], M)) rfl rfl rfl ?_
                                exact ih.2 (k) (k + 1)  (by omega) (hbr) (by omega) (by omega) (by omega) (fun j a b => by omega)
                              · have c_125 : ¬ ((nI (l.getD k 0)) = 76) := of_decide_eq_false c_125
                                have n_125 : ¬ (l.getD k 0 = 76) := fun h9 => c_125 ((eq_nI (p := l.getD k 0) (n := 76) (by omega) (by decide)).mpr h9)
                                refine ps_st (S' := (129, [(5, .int (nI (l.getD k 0))), (0, .ref m0), (1, .int (nI s)), (2, .int (nI a)), (3, .int (nI l.length)), (4, .int (nI k))], [.int (-1)], M)) rfl rfl rfl ?_
                                exact ps_ret rfl rfl (Or.inl ⟨ty_o hbr (by omega) (by omega) (by omega), rfl, rfl⟩)
                            · have c_113 : ¬ (¬ (nI (l.getD k 0)) = 90) := of_decide_eq_false c_113
                              have n_113 : l.getD k 0 = 90 := (eq_nI (p := l.getD k 0) (n := 90) (by omega) (by decide)).mp (Decidable.not_not.mp c_113)
                              refine ps_st (S' := (118, [(4, .int (nI k))], [.int (nI k)], M)) rfl rfl rfl ?_
                              refine ps_st (S' := (119, [(4, .int (nI k))], [.int 1, .int (nI k)], M)) rfl rfl rfl ?_
                              refine ps_st (S' := (120, [(4, .int (nI k))], [.int ((nI k) + 1)], M)) rfl rfl rfl ?_
                              rw [nI_add1 (p := k) (k := 1) (x := 1) rfl (by omega)]
                              show pl _ _ _ (_, [(4, .int (nI k))], [.int (nI (k + 1))], M) _
                              exact ps_reti rfl (Or.inr ⟨k + 1, ty_p hbr (by omega) (by omega), by omega, rfl, rfl⟩)
            · have c_46 : ¬ ((nI k) < (nI l.length)) := of_decide_eq_false c_46
              have n_46 : ¬ (k < l.length) := fun h9 => c_46 ((lt_nI (p := k) (n := l.length) (by omega) (by omega)).mpr h9)
              refine ps_st (S' := (50, [], [.int (-1)], M)) rfl rfl rfl ?_
              exact ps_ret rfl rfl (Or.inl ⟨ty_1 hbr (by omega), rfl, rfl⟩)
        · have c_12 : ¬ ((nI l.length) ≤ (nI k)) := of_decide_eq_false c_12
          have n_12 : ¬ (l.length ≤ k) := fun h9 => c_12 ((le_nI (p := l.length) (n := k) (by omega) (by omega)).mpr h9)
          refine ps_st (S' := (16, [(0, .ref m0), (1, .int (nI s)), (2, .int (nI a)), (3, .int (nI l.length)), (4, .int (nI k))], [.ref m0], M)) rfl rfl rfl ?_
          refine ps_st (S' := (17, [(0, .ref m0), (1, .int (nI s)), (2, .int (nI a)), (3, .int (nI l.length)), (4, .int (nI k))], [.int (nI s), .ref m0], M)) rfl rfl rfl ?_
          refine ps_st (S' := (19, [(0, .ref m0), (1, .int (nI s)), (2, .int (nI a)), (3, .int (nI l.length)), (4, .int (nI k))], [.int (nI k), .int (nI s), .ref m0], M)) rfl rfl rfl ?_
          refine pl_call (a := [.ref m0, .int (nI s), .int (nI k)]) (rest := []) rfl rfl rfl (rd_at (tx := tx) (cN := cN) (A := A) (s := s) (l := l) (k := k) hR hY (hs) (by omega)) (fun v4 M5 q6 => ?_)
          obtain ⟨rfl, rfl⟩ := q6
          show pl _ _ _ (22, [(0, .ref m0), (1, .int (nI s)), (2, .int (nI a)), (3, .int (nI l.length)), (4, .int (nI k))], [.int (nI (l.getD k 0))], M) _
          have hc_19 := hY.ch hs (k := k) (by omega)
          refine ps_st (S' := (24, [(0, .ref m0), (1, .int (nI s)), (2, .int (nI a)), (3, .int (nI l.length)), (4, .int (nI k))], [.int 91, .int (nI (l.getD k 0))], M)) rfl rfl rfl ?_
          refine ps_if2 (S1 := (33, [(0, .ref m0), (1, .int (nI s)), (2, .int (nI a)), (3, .int (nI l.length)), (4, .int (nI k))], [], M)) (S2 := (27, [(0, .ref m0), (1, .int (nI s)), (2, .int (nI a)), (3, .int (nI l.length)), (4, .int (nI k))], [], M)) rfl rfl rfl (fun c_24 => ?_) (fun c_24 => ?_)
          · have c_24 : ¬ (nI (l.getD k 0)) = 91 := of_decide_eq_true c_24
            have n_24 : ¬ (l.getD k 0 = 91) := fun h9 => c_24 ((eq_nI (p := l.getD k 0) (n := 91) (by omega) (by decide)).mpr h9)
            have hbr : s_br (fun i => l.getD i 0) (l.length - a) a = k := by
              rw [← hb, br_st (k := k) (by omega), if_neg (by omega)]
            refine ps_st (S' := (35, [(0, .ref m0), (1, .int (nI s)), (2, .int (nI a)), (3, .int (nI l.length)), (4, .int (nI k))], [.int (nI k)], M)) rfl rfl rfl ?_
            refine ps_st (S' := (36, [(0, .ref m0), (1, .int (nI s)), (2, .int (nI a)), (3, .int (nI l.length)), (4, .int (nI k))], [.int (nI a), .int (nI k)], M)) rfl rfl rfl ?_
            refine ps_st (S' := (37, [(0, .ref m0), (1, .int (nI s)), (2, .int (nI a)), (3, .int (nI l.length)), (4, .int (nI k))], [.int ((nI k) - (nI a))], M)) rfl rfl rfl ?_
            refine ps_st (S' := (40, [(0, .ref m0), (1, .int (nI s)), (2, .int (nI a)), (3, .int (nI l.length)), (4, .int (nI k))], [.int 255, .int ((nI k) - (nI a))], M)) rfl rfl rfl ?_
            refine ps_if2 (S1 := (49, [], [], M)) (S2 := (43, [(0, .ref m0), (1, .int (nI s)), (2, .int (nI a)), (3, .int (nI l.length)), (4, .int (nI k))], [], M)) rfl rfl rfl (fun c_40 => ?_) (fun c_40 => ?_)
            · have c_40 : 255 < ((nI k) - (nI a)) := of_decide_eq_true c_40
              have n_40 : 255 + a < k := (lt_sub1 (e := k) (p := a) (k := 255) (by omega) (by omega) (by omega)).mp c_40
              refine ps_st (S' := (50, [], [.int (-1)], M)) rfl rfl rfl ?_
              exact ps_ret rfl rfl (Or.inl ⟨ty_1 hbr (by omega), rfl, rfl⟩)
            · have c_40 : ¬ (255 < ((nI k) - (nI a))) := of_decide_eq_false c_40
              have n_40 : ¬ (255 + a < k) := fun h8 => c_40 ((lt_sub1 (e := k) (p := a) (k := 255) (by omega) (by omega) (by omega)).mpr h8)
              refine ps_st (S' := (45, [(0, .ref m0), (1, .int (nI s)), (2, .int (nI a)), (3, .int (nI l.length)), (4, .int (nI k))], [.int (nI k)], M)) rfl rfl rfl ?_
              refine ps_st (S' := (46, [(0, .ref m0), (1, .int (nI s)), (2, .int (nI a)), (3, .int (nI l.length)), (4, .int (nI k))], [.int (nI l.length), .int (nI k)], M)) rfl rfl rfl ?_
              refine ps_if2 (S1 := (51, [(0, .ref m0), (1, .int (nI s)), (2, .int (nI a)), (3, .int (nI l.length)), (4, .int (nI k))], [], M)) (S2 := (49, [], [], M)) rfl rfl rfl (fun c_46 => ?_) (fun c_46 => ?_)
              · have c_46 : (nI k) < (nI l.length) := of_decide_eq_true c_46
                have n_46 : k < l.length := (lt_nI (p := k) (n := l.length) (by omega) (by omega)).mp c_46
                refine ps_st (S' := (52, [(0, .ref m0), (1, .int (nI s)), (2, .int (nI a)), (3, .int (nI l.length)), (4, .int (nI k))], [.ref m0], M)) rfl rfl rfl ?_
                refine ps_st (S' := (53, [(0, .ref m0), (1, .int (nI s)), (2, .int (nI a)), (3, .int (nI l.length)), (4, .int (nI k))], [.int (nI s), .ref m0], M)) rfl rfl rfl ?_
                refine ps_st (S' := (55, [(0, .ref m0), (1, .int (nI s)), (2, .int (nI a)), (3, .int (nI l.length)), (4, .int (nI k))], [.int (nI k), .int (nI s), .ref m0], M)) rfl rfl rfl ?_
                refine pl_call (a := [.ref m0, .int (nI s), .int (nI k)]) (rest := []) rfl rfl rfl (rd_at (tx := tx) (cN := cN) (A := A) (s := s) (l := l) (k := k) hR hY (hs) (by omega)) (fun v7 M8 q9 => ?_)
                obtain ⟨rfl, rfl⟩ := q9
                show pl _ _ _ (58, [(0, .ref m0), (1, .int (nI s)), (2, .int (nI a)), (3, .int (nI l.length)), (4, .int (nI k))], [.int (nI (l.getD k 0))], M) _
                have hc_55 := hY.ch hs (k := k) (by omega)
                refine ps_st (S' := (60, [(5, .int (nI (l.getD k 0))), (0, .ref m0), (1, .int (nI s)), (2, .int (nI a)), (3, .int (nI l.length)), (4, .int (nI k))], [], M)) rfl rfl rfl ?_
                refine ps_st (S' := (62, [(5, .int (nI (l.getD k 0))), (0, .ref m0), (1, .int (nI s)), (2, .int (nI a)), (3, .int (nI l.length)), (4, .int (nI k))], [.int (nI (l.getD k 0))], M)) rfl rfl rfl ?_
                refine ps_st (S' := (64, [(5, .int (nI (l.getD k 0))), (0, .ref m0), (1, .int (nI s)), (2, .int (nI a)), (3, .int (nI l.length)), (4, .int (nI k))], [.int 66, .int (nI (l.getD k 0))], M)) rfl rfl rfl ?_
                refine ps_if2 (S1 := (116, [(4, .int (nI k))], [], M)) (S2 := (67, [(5, .int (nI (l.getD k 0))), (0, .ref m0), (1, .int (nI s)), (2, .int (nI a)), (3, .int (nI l.length)), (4, .int (nI k))], [], M)) rfl rfl rfl (fun c_64 => ?_) (fun c_64 => ?_)
                · have c_64 : (nI (l.getD k 0)) = 66 := of_decide_eq_true c_64
                  have n_64 : l.getD k 0 = 66 := (eq_nI (p := l.getD k 0) (n := 66) (by omega) (by decide)).mp c_64
                  refine ps_st (S' := (118, [(4, .int (nI k))], [.int (nI k)], M)) rfl rfl rfl ?_
                  refine ps_st (S' := (119, [(4, .int (nI k))], [.int 1, .int (nI k)], M)) rfl rfl rfl ?_
                  refine ps_st (S' := (120, [(4, .int (nI k))], [.int ((nI k) + 1)], M)) rfl rfl rfl ?_
                  rw [nI_add1 (p := k) (k := 1) (x := 1) rfl (by omega)]
                  show pl _ _ _ (_, [(4, .int (nI k))], [.int (nI (k + 1))], M) _
                  exact ps_reti rfl (Or.inr ⟨k + 1, ty_p hbr (by omega) (by omega), by omega, rfl, rfl⟩)
                · have c_64 : ¬ ((nI (l.getD k 0)) = 66) := of_decide_eq_false c_64
                  have n_64 : ¬ (l.getD k 0 = 66) := fun h9 => c_64 ((eq_nI (p := l.getD k 0) (n := 66) (by omega) (by decide)).mpr h9)
                  refine ps_st (S' := (69, [(5, .int (nI (l.getD k 0))), (0, .ref m0), (1, .int (nI s)), (2, .int (nI a)), (3, .int (nI l.length)), (4, .int (nI k))], [.int (nI (l.getD k 0))], M)) rfl rfl rfl ?_
                  refine ps_st (S' := (71, [(5, .int (nI (l.getD k 0))), (0, .ref m0), (1, .int (nI s)), (2, .int (nI a)), (3, .int (nI l.length)), (4, .int (nI k))], [.int 67, .int (nI (l.getD k 0))], M)) rfl rfl rfl ?_
                  refine ps_if2 (S1 := (116, [(4, .int (nI k))], [], M)) (S2 := (74, [(5, .int (nI (l.getD k 0))), (0, .ref m0), (1, .int (nI s)), (2, .int (nI a)), (3, .int (nI l.length)), (4, .int (nI k))], [], M)) rfl rfl rfl (fun c_71 => ?_) (fun c_71 => ?_)
                  · have c_71 : (nI (l.getD k 0)) = 67 := of_decide_eq_true c_71
                    have n_71 : l.getD k 0 = 67 := (eq_nI (p := l.getD k 0) (n := 67) (by omega) (by decide)).mp c_71
                    refine ps_st (S' := (118, [(4, .int (nI k))], [.int (nI k)], M)) rfl rfl rfl ?_
                    refine ps_st (S' := (119, [(4, .int (nI k))], [.int 1, .int (nI k)], M)) rfl rfl rfl ?_
                    refine ps_st (S' := (120, [(4, .int (nI k))], [.int ((nI k) + 1)], M)) rfl rfl rfl ?_
                    rw [nI_add1 (p := k) (k := 1) (x := 1) rfl (by omega)]
                    show pl _ _ _ (_, [(4, .int (nI k))], [.int (nI (k + 1))], M) _
                    exact ps_reti rfl (Or.inr ⟨k + 1, ty_p hbr (by omega) (by omega), by omega, rfl, rfl⟩)
                  · have c_71 : ¬ ((nI (l.getD k 0)) = 67) := of_decide_eq_false c_71
                    have n_71 : ¬ (l.getD k 0 = 67) := fun h9 => c_71 ((eq_nI (p := l.getD k 0) (n := 67) (by omega) (by decide)).mpr h9)
                    refine ps_st (S' := (76, [(5, .int (nI (l.getD k 0))), (0, .ref m0), (1, .int (nI s)), (2, .int (nI a)), (3, .int (nI l.length)), (4, .int (nI k))], [.int (nI (l.getD k 0))], M)) rfl rfl rfl ?_
                    refine ps_st (S' := (78, [(5, .int (nI (l.getD k 0))), (0, .ref m0), (1, .int (nI s)), (2, .int (nI a)), (3, .int (nI l.length)), (4, .int (nI k))], [.int 68, .int (nI (l.getD k 0))], M)) rfl rfl rfl ?_
                    refine ps_if2 (S1 := (116, [(4, .int (nI k))], [], M)) (S2 := (81, [(5, .int (nI (l.getD k 0))), (0, .ref m0), (1, .int (nI s)), (2, .int (nI a)), (3, .int (nI l.length)), (4, .int (nI k))], [], M)) rfl rfl rfl (fun c_78 => ?_) (fun c_78 => ?_)
                    · have c_78 : (nI (l.getD k 0)) = 68 := of_decide_eq_true c_78
                      have n_78 : l.getD k 0 = 68 := (eq_nI (p := l.getD k 0) (n := 68) (by omega) (by decide)).mp c_78
                      refine ps_st (S' := (118, [(4, .int (nI k))], [.int (nI k)], M)) rfl rfl rfl ?_
                      refine ps_st (S' := (119, [(4, .int (nI k))], [.int 1, .int (nI k)], M)) rfl rfl rfl ?_
                      refine ps_st (S' := (120, [(4, .int (nI k))], [.int ((nI k) + 1)], M)) rfl rfl rfl ?_
                      rw [nI_add1 (p := k) (k := 1) (x := 1) rfl (by omega)]
                      show pl _ _ _ (_, [(4, .int (nI k))], [.int (nI (k + 1))], M) _
                      exact ps_reti rfl (Or.inr ⟨k + 1, ty_p hbr (by omega) (by omega), by omega, rfl, rfl⟩)
                    · have c_78 : ¬ ((nI (l.getD k 0)) = 68) := of_decide_eq_false c_78
                      have n_78 : ¬ (l.getD k 0 = 68) := fun h9 => c_78 ((eq_nI (p := l.getD k 0) (n := 68) (by omega) (by decide)).mpr h9)
                      refine ps_st (S' := (83, [(5, .int (nI (l.getD k 0))), (0, .ref m0), (1, .int (nI s)), (2, .int (nI a)), (3, .int (nI l.length)), (4, .int (nI k))], [.int (nI (l.getD k 0))], M)) rfl rfl rfl ?_
                      refine ps_st (S' := (85, [(5, .int (nI (l.getD k 0))), (0, .ref m0), (1, .int (nI s)), (2, .int (nI a)), (3, .int (nI l.length)), (4, .int (nI k))], [.int 70, .int (nI (l.getD k 0))], M)) rfl rfl rfl ?_
                      refine ps_if2 (S1 := (116, [(4, .int (nI k))], [], M)) (S2 := (88, [(5, .int (nI (l.getD k 0))), (0, .ref m0), (1, .int (nI s)), (2, .int (nI a)), (3, .int (nI l.length)), (4, .int (nI k))], [], M)) rfl rfl rfl (fun c_85 => ?_) (fun c_85 => ?_)
                      · have c_85 : (nI (l.getD k 0)) = 70 := of_decide_eq_true c_85
                        have n_85 : l.getD k 0 = 70 := (eq_nI (p := l.getD k 0) (n := 70) (by omega) (by decide)).mp c_85
                        refine ps_st (S' := (118, [(4, .int (nI k))], [.int (nI k)], M)) rfl rfl rfl ?_
                        refine ps_st (S' := (119, [(4, .int (nI k))], [.int 1, .int (nI k)], M)) rfl rfl rfl ?_
                        refine ps_st (S' := (120, [(4, .int (nI k))], [.int ((nI k) + 1)], M)) rfl rfl rfl ?_
                        rw [nI_add1 (p := k) (k := 1) (x := 1) rfl (by omega)]
                        show pl _ _ _ (_, [(4, .int (nI k))], [.int (nI (k + 1))], M) _
                        exact ps_reti rfl (Or.inr ⟨k + 1, ty_p hbr (by omega) (by omega), by omega, rfl, rfl⟩)
                      · have c_85 : ¬ ((nI (l.getD k 0)) = 70) := of_decide_eq_false c_85
                        have n_85 : ¬ (l.getD k 0 = 70) := fun h9 => c_85 ((eq_nI (p := l.getD k 0) (n := 70) (by omega) (by decide)).mpr h9)
                        refine ps_st (S' := (90, [(5, .int (nI (l.getD k 0))), (0, .ref m0), (1, .int (nI s)), (2, .int (nI a)), (3, .int (nI l.length)), (4, .int (nI k))], [.int (nI (l.getD k 0))], M)) rfl rfl rfl ?_
                        refine ps_st (S' := (92, [(5, .int (nI (l.getD k 0))), (0, .ref m0), (1, .int (nI s)), (2, .int (nI a)), (3, .int (nI l.length)), (4, .int (nI k))], [.int 73, .int (nI (l.getD k 0))], M)) rfl rfl rfl ?_
                        refine ps_if2 (S1 := (116, [(4, .int (nI k))], [], M)) (S2 := (95, [(5, .int (nI (l.getD k 0))), (0, .ref m0), (1, .int (nI s)), (2, .int (nI a)), (3, .int (nI l.length)), (4, .int (nI k))], [], M)) rfl rfl rfl (fun c_92 => ?_) (fun c_92 => ?_)
                        · have c_92 : (nI (l.getD k 0)) = 73 := of_decide_eq_true c_92
                          have n_92 : l.getD k 0 = 73 := (eq_nI (p := l.getD k 0) (n := 73) (by omega) (by decide)).mp c_92
                          refine ps_st (S' := (118, [(4, .int (nI k))], [.int (nI k)], M)) rfl rfl rfl ?_
                          refine ps_st (S' := (119, [(4, .int (nI k))], [.int 1, .int (nI k)], M)) rfl rfl rfl ?_
                          refine ps_st (S' := (120, [(4, .int (nI k))], [.int ((nI k) + 1)], M)) rfl rfl rfl ?_
                          rw [nI_add1 (p := k) (k := 1) (x := 1) rfl (by omega)]
                          show pl _ _ _ (_, [(4, .int (nI k))], [.int (nI (k + 1))], M) _
                          exact ps_reti rfl (Or.inr ⟨k + 1, ty_p hbr (by omega) (by omega), by omega, rfl, rfl⟩)
                        · have c_92 : ¬ ((nI (l.getD k 0)) = 73) := of_decide_eq_false c_92
                          have n_92 : ¬ (l.getD k 0 = 73) := fun h9 => c_92 ((eq_nI (p := l.getD k 0) (n := 73) (by omega) (by decide)).mpr h9)
                          refine ps_st (S' := (97, [(5, .int (nI (l.getD k 0))), (0, .ref m0), (1, .int (nI s)), (2, .int (nI a)), (3, .int (nI l.length)), (4, .int (nI k))], [.int (nI (l.getD k 0))], M)) rfl rfl rfl ?_
                          refine ps_st (S' := (99, [(5, .int (nI (l.getD k 0))), (0, .ref m0), (1, .int (nI s)), (2, .int (nI a)), (3, .int (nI l.length)), (4, .int (nI k))], [.int 74, .int (nI (l.getD k 0))], M)) rfl rfl rfl ?_
                          refine ps_if2 (S1 := (116, [(4, .int (nI k))], [], M)) (S2 := (102, [(5, .int (nI (l.getD k 0))), (0, .ref m0), (1, .int (nI s)), (2, .int (nI a)), (3, .int (nI l.length)), (4, .int (nI k))], [], M)) rfl rfl rfl (fun c_99 => ?_) (fun c_99 => ?_)
                          · have c_99 : (nI (l.getD k 0)) = 74 := of_decide_eq_true c_99
                            have n_99 : l.getD k 0 = 74 := (eq_nI (p := l.getD k 0) (n := 74) (by omega) (by decide)).mp c_99
                            refine ps_st (S' := (118, [(4, .int (nI k))], [.int (nI k)], M)) rfl rfl rfl ?_
                            refine ps_st (S' := (119, [(4, .int (nI k))], [.int 1, .int (nI k)], M)) rfl rfl rfl ?_
                            refine ps_st (S' := (120, [(4, .int (nI k))], [.int ((nI k) + 1)], M)) rfl rfl rfl ?_
                            rw [nI_add1 (p := k) (k := 1) (x := 1) rfl (by omega)]
                            show pl _ _ _ (_, [(4, .int (nI k))], [.int (nI (k + 1))], M) _
                            exact ps_reti rfl (Or.inr ⟨k + 1, ty_p hbr (by omega) (by omega), by omega, rfl, rfl⟩)
                          · have c_99 : ¬ ((nI (l.getD k 0)) = 74) := of_decide_eq_false c_99
                            have n_99 : ¬ (l.getD k 0 = 74) := fun h9 => c_99 ((eq_nI (p := l.getD k 0) (n := 74) (by omega) (by decide)).mpr h9)
                            refine ps_st (S' := (104, [(5, .int (nI (l.getD k 0))), (0, .ref m0), (1, .int (nI s)), (2, .int (nI a)), (3, .int (nI l.length)), (4, .int (nI k))], [.int (nI (l.getD k 0))], M)) rfl rfl rfl ?_
                            refine ps_st (S' := (106, [(5, .int (nI (l.getD k 0))), (0, .ref m0), (1, .int (nI s)), (2, .int (nI a)), (3, .int (nI l.length)), (4, .int (nI k))], [.int 83, .int (nI (l.getD k 0))], M)) rfl rfl rfl ?_
                            refine ps_if2 (S1 := (116, [(4, .int (nI k))], [], M)) (S2 := (109, [(5, .int (nI (l.getD k 0))), (0, .ref m0), (1, .int (nI s)), (2, .int (nI a)), (3, .int (nI l.length)), (4, .int (nI k))], [], M)) rfl rfl rfl (fun c_106 => ?_) (fun c_106 => ?_)
                            · have c_106 : (nI (l.getD k 0)) = 83 := of_decide_eq_true c_106
                              have n_106 : l.getD k 0 = 83 := (eq_nI (p := l.getD k 0) (n := 83) (by omega) (by decide)).mp c_106
                              refine ps_st (S' := (118, [(4, .int (nI k))], [.int (nI k)], M)) rfl rfl rfl ?_
                              refine ps_st (S' := (119, [(4, .int (nI k))], [.int 1, .int (nI k)], M)) rfl rfl rfl ?_
                              refine ps_st (S' := (120, [(4, .int (nI k))], [.int ((nI k) + 1)], M)) rfl rfl rfl ?_
                              rw [nI_add1 (p := k) (k := 1) (x := 1) rfl (by omega)]
                              show pl _ _ _ (_, [(4, .int (nI k))], [.int (nI (k + 1))], M) _
                              exact ps_reti rfl (Or.inr ⟨k + 1, ty_p hbr (by omega) (by omega), by omega, rfl, rfl⟩)
                            · have c_106 : ¬ ((nI (l.getD k 0)) = 83) := of_decide_eq_false c_106
                              have n_106 : ¬ (l.getD k 0 = 83) := fun h9 => c_106 ((eq_nI (p := l.getD k 0) (n := 83) (by omega) (by decide)).mpr h9)
                              refine ps_st (S' := (111, [(5, .int (nI (l.getD k 0))), (0, .ref m0), (1, .int (nI s)), (2, .int (nI a)), (3, .int (nI l.length)), (4, .int (nI k))], [.int (nI (l.getD k 0))], M)) rfl rfl rfl ?_
                              refine ps_st (S' := (113, [(5, .int (nI (l.getD k 0))), (0, .ref m0), (1, .int (nI s)), (2, .int (nI a)), (3, .int (nI l.length)), (4, .int (nI k))], [.int 90, .int (nI (l.getD k 0))], M)) rfl rfl rfl ?_
                              refine ps_if2 (S1 := (121, [(5, .int (nI (l.getD k 0))), (0, .ref m0), (1, .int (nI s)), (2, .int (nI a)), (3, .int (nI l.length)), (4, .int (nI k))], [], M)) (S2 := (116, [(4, .int (nI k))], [], M)) rfl rfl rfl (fun c_113 => ?_) (fun c_113 => ?_)
                              · have c_113 : ¬ (nI (l.getD k 0)) = 90 := of_decide_eq_true c_113
                                have n_113 : ¬ (l.getD k 0 = 90) := fun h9 => c_113 ((eq_nI (p := l.getD k 0) (n := 90) (by omega) (by decide)).mpr h9)
                                refine ps_st (S' := (123, [(5, .int (nI (l.getD k 0))), (0, .ref m0), (1, .int (nI s)), (2, .int (nI a)), (3, .int (nI l.length)), (4, .int (nI k))], [.int (nI (l.getD k 0))], M)) rfl rfl rfl ?_
                                refine ps_st (S' := (125, [(5, .int (nI (l.getD k 0))), (0, .ref m0), (1, .int (nI s)), (2, .int (nI a)), (3, .int (nI l.length)), (4, .int (nI k))], [.int 76, .int (nI (l.getD k 0))], M)) rfl rfl rfl ?_
                                refine ps_if2 (S1 := (130, [(5, .int (nI (l.getD k 0))), (0, .ref m0), (1, .int (nI s)), (2, .int (nI a)), (3, .int (nI l.length)), (4, .int (nI k))], [], M)) (S2 := (128, [(5, .int (nI (l.getD k 0))), (0, .ref m0), (1, .int (nI s)), (2, .int (nI a)), (3, .int (nI l.length)), (4, .int (nI k))], [], M)) rfl rfl rfl (fun c_125 => ?_) (fun c_125 => ?_)
                                · have c_125 : (nI (l.getD k 0)) = 76 := of_decide_eq_true c_125
                                  have n_125 : l.getD k 0 = 76 := (eq_nI (p := l.getD k 0) (n := 76) (by omega) (by decide)).mp c_125
                                  refine ps_st (S' := (132, [(5, .int (nI (l.getD k 0))), (0, .ref m0), (1, .int (nI s)), (2, .int (nI a)), (3, .int (nI l.length)), (4, .int (nI k))], [.int (nI k)], M)) rfl rfl rfl ?_
                                  refine ps_st (S' := (133, [(5, .int (nI (l.getD k 0))), (0, .ref m0), (1, .int (nI s)), (2, .int (nI a)), (3, .int (nI l.length)), (4, .int (nI k))], [.int 1, .int (nI k)], M)) rfl rfl rfl ?_
                                  refine ps_st (S' := (134, [(5, .int (nI (l.getD k 0))), (0, .ref m0), (1, .int (nI s)), (2, .int (nI a)), (3, .int (nI l.length)), (4, .int (nI k))], [.int ((nI k) + 1)], M)) rfl rfl rfl ?_
                                  rw [nI_add1 (p := k) (k := 1) (x := 1) rfl (by omega)]
                                  show pl _ _ _ (_, [(5, .int (nI (l.getD k 0))), (0, .ref m0), (1, .int (nI s)), (2, .int (nI a)), (3, .int (nI l.length)), (4, .int (nI k))], [.int (nI (k + 1))], M) _
                                  refine ps_st (S' := (136, [(0, .ref m0), (1, .int (nI s)), (3, .int (nI l.length)), (4, .int (nI k)), (6, .int (nI (k + 1)))], [], M)) rfl rfl rfl ?_
                                  exact ih.2 (k) (k + 1)  (by omega) (hbr) (by omega) (by omega) (by omega) (fun j a b => by omega)
                                · have c_125 : ¬ ((nI (l.getD k 0)) = 76) := of_decide_eq_false c_125
                                  have n_125 : ¬ (l.getD k 0 = 76) := fun h9 => c_125 ((eq_nI (p := l.getD k 0) (n := 76) (by omega) (by decide)).mpr h9)
                                  refine ps_st (S' := (129, [(5, .int (nI (l.getD k 0))), (0, .ref m0), (1, .int (nI s)), (2, .int (nI a)), (3, .int (nI l.length)), (4, .int (nI k))], [.int (-1)], M)) rfl rfl rfl ?_
                                  exact ps_ret rfl rfl (Or.inl ⟨ty_o hbr (by omega) (by omega) (by omega), rfl, rfl⟩)
                              · have c_113 : ¬ (¬ (nI (l.getD k 0)) = 90) := of_decide_eq_false c_113
                                have n_113 : l.getD k 0 = 90 := (eq_nI (p := l.getD k 0) (n := 90) (by omega) (by decide)).mp (Decidable.not_not.mp c_113)
                                refine ps_st (S' := (118, [(4, .int (nI k))], [.int (nI k)], M)) rfl rfl rfl ?_
                                refine ps_st (S' := (119, [(4, .int (nI k))], [.int 1, .int (nI k)], M)) rfl rfl rfl ?_
                                refine ps_st (S' := (120, [(4, .int (nI k))], [.int ((nI k) + 1)], M)) rfl rfl rfl ?_
                                rw [nI_add1 (p := k) (k := 1) (x := 1) rfl (by omega)]
                                show pl _ _ _ (_, [(4, .int (nI k))], [.int (nI (k + 1))], M) _
                                exact ps_reti rfl (Or.inr ⟨k + 1, ty_p hbr (by omega) (by omega), by omega, rfl, rfl⟩)
              · have c_46 : ¬ ((nI k) < (nI l.length)) := of_decide_eq_false c_46
                have n_46 : ¬ (k < l.length) := fun h9 => c_46 ((lt_nI (p := k) (n := l.length) (by omega) (by omega)).mpr h9)
                refine ps_st (S' := (50, [], [.int (-1)], M)) rfl rfl rfl ?_
                exact ps_ret rfl rfl (Or.inl ⟨ty_1 hbr (by omega), rfl, rfl⟩)
          · have c_24 : ¬ (¬ (nI (l.getD k 0)) = 91) := of_decide_eq_false c_24
            have n_24 : l.getD k 0 = 91 := (eq_nI (p := l.getD k 0) (n := 91) (by omega) (by decide)).mp (Decidable.not_not.mp c_24)
            refine ps_st (S' := (30, [(4, .int ((nI k) + 1)), (0, .ref m0), (1, .int (nI s)), (2, .int (nI a)), (3, .int (nI l.length))], [], M)) rfl rfl rfl ?_
            rw [nI_add1 (p := k) (k := 1) (x := 1) rfl (by omega)]
            show pl _ _ _ (_, [(4, .int (nI (k + 1))), (0, .ref m0), (1, .int (nI s)), (2, .int (nI a)), (3, .int (nI l.length))], [], M) _
            refine ps_st (S' := (9, [(0, .ref m0), (1, .int (nI s)), (2, .int (nI a)), (3, .int (nI l.length)), (4, .int (nI (k + 1)))], [], M)) rfl rfl rfl ?_
            exact ih.1 (k + 1)  (by omega) (by
                rw [← hb, br_st (k := k) (by omega), if_pos (by omega)])
      · skip
        intro k e hak hbr hnb hL hke hno
        refine ps_st1 (S' := (138, [(0, .ref m0), (1, .int (nI s)), (3, .int (nI l.length)), (4, .int (nI k)), (6, .int (nI e))], [.int (nI e)], M)) rfl rfl rfl ?_
        refine ps_st (S' := (139, [(0, .ref m0), (1, .int (nI s)), (3, .int (nI l.length)), (4, .int (nI k)), (6, .int (nI e))], [.int (nI l.length), .int (nI e)], M)) rfl rfl rfl ?_
        refine ps_if2 (S1 := (160, [(0, .ref m0), (1, .int (nI s)), (3, .int (nI l.length)), (4, .int (nI k)), (6, .int (nI e))], [], M)) (S2 := (142, [(0, .ref m0), (1, .int (nI s)), (3, .int (nI l.length)), (4, .int (nI k)), (6, .int (nI e))], [], M)) rfl rfl rfl (fun c_139 => ?_) (fun c_139 => ?_)
        · have c_139 : (nI l.length) ≤ (nI e) := of_decide_eq_true c_139
          have n_139 : l.length ≤ e := (le_nI (p := l.length) (n := e) (by omega) (by omega)).mp c_139
          refine ps_st (S' := (162, [(0, .ref m0), (1, .int (nI s)), (3, .int (nI l.length)), (4, .int (nI k)), (6, .int (nI e))], [.int (nI e)], M)) rfl rfl rfl ?_
          refine ps_st (S' := (163, [(0, .ref m0), (1, .int (nI s)), (3, .int (nI l.length)), (4, .int (nI k)), (6, .int (nI e))], [.int (nI l.length), .int (nI e)], M)) rfl rfl rfl ?_
          refine ps_if2 (S1 := (187, [], [], M)) (S2 := (166, [(0, .ref m0), (1, .int (nI s)), (3, .int (nI l.length)), (4, .int (nI k)), (6, .int (nI e))], [], M)) rfl rfl rfl (fun c_163 => ?_) (fun c_163 => ?_)
          · have c_163 : (nI l.length) ≤ (nI e) := of_decide_eq_true c_163
            have n_163 : l.length ≤ e := (le_nI (p := l.length) (n := e) (by omega) (by omega)).mp c_163
            refine ps_st (S' := (188, [], [.int (-1)], M)) rfl rfl rfl ?_
            exact ps_ret rfl rfl (Or.inl ⟨ty_Ln hbr hnb hL (fun j h1 h2 => hno j h1 (by omega)), rfl, rfl⟩)
          · have c_163 : ¬ ((nI l.length) ≤ (nI e)) := of_decide_eq_false c_163
            have n_163 : ¬ (l.length ≤ e) := fun h9 => c_163 ((le_nI (p := l.length) (n := e) (by omega) (by omega)).mpr h9)
            refine ps_st (S' := (167, [(0, .ref m0), (1, .int (nI s)), (3, .int (nI l.length)), (4, .int (nI k)), (6, .int (nI e))], [.ref m0], M)) rfl rfl rfl ?_
            refine ps_st (S' := (168, [(0, .ref m0), (1, .int (nI s)), (3, .int (nI l.length)), (4, .int (nI k)), (6, .int (nI e))], [.int (nI s), .ref m0], M)) rfl rfl rfl ?_
            refine ps_st (S' := (170, [(0, .ref m0), (1, .int (nI s)), (3, .int (nI l.length)), (4, .int (nI k)), (6, .int (nI e))], [.int (nI k), .int (nI s), .ref m0], M)) rfl rfl rfl ?_
            refine ps_st (S' := (171, [(0, .ref m0), (1, .int (nI s)), (3, .int (nI l.length)), (4, .int (nI k)), (6, .int (nI e))], [.int 1, .int (nI k), .int (nI s), .ref m0], M)) rfl rfl rfl ?_
            refine ps_st (S' := (172, [(0, .ref m0), (1, .int (nI s)), (3, .int (nI l.length)), (4, .int (nI k)), (6, .int (nI e))], [.int ((nI k) + 1), .int (nI s), .ref m0], M)) rfl rfl rfl ?_
            rw [nI_add1 (p := k) (k := 1) (x := 1) rfl (by omega)]
            show pl _ _ _ (_, [(0, .ref m0), (1, .int (nI s)), (3, .int (nI l.length)), (4, .int (nI k)), (6, .int (nI e))], [.int (nI (k + 1)), .int (nI s), .ref m0], M) _
            refine ps_st (S' := (174, [(0, .ref m0), (1, .int (nI s)), (3, .int (nI l.length)), (4, .int (nI k)), (6, .int (nI e))], [.int (nI e), .int (nI (k + 1)), .int (nI s), .ref m0], M)) rfl rfl rfl ?_
            refine pl_call (a := [.ref m0, .int (nI s), .int (nI (k + 1)), .int (nI e)]) (rest := []) rfl rfl rfl (rd_nameText (tx := tx) (cN := cN) (A := A) (s := s) (l := l) (a := (k + 1)) (e := e) hR hY (hs) (by omega)) (fun v10 M11 q12 => ?_)
            obtain ⟨rfl, rfl⟩ := q12
            show pl _ _ _ (177, [(0, .ref m0), (1, .int (nI s)), (3, .int (nI l.length)), (4, .int (nI k)), (6, .int (nI e))], [.int (nI (nmN (fun i => l.getD i 0) (k + 1) e))], M) _
            have hnb_174 := nmN_le (fun i => l.getD i 0) (k + 1) e
            refine ps_if (S1 := (187, [], [], M)) (S2 := (180, [(0, .ref m0), (1, .int (nI s)), (3, .int (nI l.length)), (4, .int (nI k)), (6, .int (nI e))], [], M)) rfl rfl rfl (fun c_177 => ?_) (fun c_177 => ?_)
            · have c_177 : (nI (nmN (fun i => l.getD i 0) (k + 1) e)) = 0 := of_decide_eq_true c_177
              have n_177 : nmN (fun i => l.getD i 0) (k + 1) e = 0 := (eq_nI (p := nmN (fun i => l.getD i 0) (k + 1) e) (n := 0) (by omega) (by decide)).mp c_177
              refine ps_st (S' := (188, [], [.int (-1)], M)) rfl rfl rfl ?_
              exact ps_ret rfl rfl (Or.inl ⟨by
                  rw [ty_Ls (e := e) hbr hnb hL (by omega) (by omega) (by omega) hno, if_pos (by omega)], rfl, rfl⟩)
            · have c_177 : ¬ ((nI (nmN (fun i => l.getD i 0) (k + 1) e)) = 0) := of_decide_eq_false c_177
              have n_177 : ¬ (nmN (fun i => l.getD i 0) (k + 1) e = 0) := fun h9 => c_177 ((eq_nI (p := nmN (fun i => l.getD i 0) (k + 1) e) (n := 0) (by omega) (by decide)).mpr h9)
              refine ps_st (S' := (182, [(0, .ref m0), (1, .int (nI s)), (3, .int (nI l.length)), (4, .int (nI k)), (6, .int (nI e))], [.int (nI e)], M)) rfl rfl rfl ?_
              refine ps_st (S' := (183, [(0, .ref m0), (1, .int (nI s)), (3, .int (nI l.length)), (4, .int (nI k)), (6, .int (nI e))], [.int 1, .int (nI e)], M)) rfl rfl rfl ?_
              refine ps_st (S' := (184, [(0, .ref m0), (1, .int (nI s)), (3, .int (nI l.length)), (4, .int (nI k)), (6, .int (nI e))], [.int ((nI e) + 1)], M)) rfl rfl rfl ?_
              rw [nI_add1 (p := e) (k := 1) (x := 1) rfl (by omega)]
              show pl _ _ _ (_, [(0, .ref m0), (1, .int (nI s)), (3, .int (nI l.length)), (4, .int (nI k)), (6, .int (nI e))], [.int (nI (e + 1))], M) _
              refine ps_st (S' := (188, [], [.int (nI (e + 1))], M)) rfl rfl rfl ?_
              exact ps_reti rfl (Or.inr ⟨e + 1, by
                  rw [ty_Ls (e := e) hbr hnb hL (by omega) (by omega) (by omega) hno, if_neg (by omega)], by omega, rfl, rfl⟩)
        · have c_139 : ¬ ((nI l.length) ≤ (nI e)) := of_decide_eq_false c_139
          have n_139 : ¬ (l.length ≤ e) := fun h9 => c_139 ((le_nI (p := l.length) (n := e) (by omega) (by omega)).mpr h9)
          refine ps_st (S' := (143, [(0, .ref m0), (1, .int (nI s)), (3, .int (nI l.length)), (4, .int (nI k)), (6, .int (nI e))], [.ref m0], M)) rfl rfl rfl ?_
          refine ps_st (S' := (144, [(0, .ref m0), (1, .int (nI s)), (3, .int (nI l.length)), (4, .int (nI k)), (6, .int (nI e))], [.int (nI s), .ref m0], M)) rfl rfl rfl ?_
          refine ps_st (S' := (146, [(0, .ref m0), (1, .int (nI s)), (3, .int (nI l.length)), (4, .int (nI k)), (6, .int (nI e))], [.int (nI e), .int (nI s), .ref m0], M)) rfl rfl rfl ?_
          refine pl_call (a := [.ref m0, .int (nI s), .int (nI e)]) (rest := []) rfl rfl rfl (rd_at (tx := tx) (cN := cN) (A := A) (s := s) (l := l) (k := e) hR hY (hs) (by omega)) (fun v13 M14 q15 => ?_)
          obtain ⟨rfl, rfl⟩ := q15
          show pl _ _ _ (149, [(0, .ref m0), (1, .int (nI s)), (3, .int (nI l.length)), (4, .int (nI k)), (6, .int (nI e))], [.int (nI (l.getD e 0))], M) _
          have hc_146 := hY.ch hs (k := e) (by omega)
          refine ps_st (S' := (151, [(0, .ref m0), (1, .int (nI s)), (3, .int (nI l.length)), (4, .int (nI k)), (6, .int (nI e))], [.int 59, .int (nI (l.getD e 0))], M)) rfl rfl rfl ?_
          refine ps_if2 (S1 := (160, [(0, .ref m0), (1, .int (nI s)), (3, .int (nI l.length)), (4, .int (nI k)), (6, .int (nI e))], [], M)) (S2 := (154, [(0, .ref m0), (1, .int (nI s)), (3, .int (nI l.length)), (4, .int (nI k)), (6, .int (nI e))], [], M)) rfl rfl rfl (fun c_151 => ?_) (fun c_151 => ?_)
          · have c_151 : (nI (l.getD e 0)) = 59 := of_decide_eq_true c_151
            have n_151 : l.getD e 0 = 59 := (eq_nI (p := l.getD e 0) (n := 59) (by omega) (by decide)).mp c_151
            refine ps_st (S' := (162, [(0, .ref m0), (1, .int (nI s)), (3, .int (nI l.length)), (4, .int (nI k)), (6, .int (nI e))], [.int (nI e)], M)) rfl rfl rfl ?_
            refine ps_st (S' := (163, [(0, .ref m0), (1, .int (nI s)), (3, .int (nI l.length)), (4, .int (nI k)), (6, .int (nI e))], [.int (nI l.length), .int (nI e)], M)) rfl rfl rfl ?_
            refine ps_if2 (S1 := (187, [], [], M)) (S2 := (166, [(0, .ref m0), (1, .int (nI s)), (3, .int (nI l.length)), (4, .int (nI k)), (6, .int (nI e))], [], M)) rfl rfl rfl (fun c_163 => ?_) (fun c_163 => ?_)
            · have c_163 : (nI l.length) ≤ (nI e) := of_decide_eq_true c_163
              have n_163 : l.length ≤ e := (le_nI (p := l.length) (n := e) (by omega) (by omega)).mp c_163
              refine ps_st (S' := (188, [], [.int (-1)], M)) rfl rfl rfl ?_
              exact ps_ret rfl rfl (Or.inl ⟨ty_Ln hbr hnb hL (fun j h1 h2 => hno j h1 (by omega)), rfl, rfl⟩)
            · have c_163 : ¬ ((nI l.length) ≤ (nI e)) := of_decide_eq_false c_163
              have n_163 : ¬ (l.length ≤ e) := fun h9 => c_163 ((le_nI (p := l.length) (n := e) (by omega) (by omega)).mpr h9)
              refine ps_st (S' := (167, [(0, .ref m0), (1, .int (nI s)), (3, .int (nI l.length)), (4, .int (nI k)), (6, .int (nI e))], [.ref m0], M)) rfl rfl rfl ?_
              refine ps_st (S' := (168, [(0, .ref m0), (1, .int (nI s)), (3, .int (nI l.length)), (4, .int (nI k)), (6, .int (nI e))], [.int (nI s), .ref m0], M)) rfl rfl rfl ?_
              refine ps_st (S' := (170, [(0, .ref m0), (1, .int (nI s)), (3, .int (nI l.length)), (4, .int (nI k)), (6, .int (nI e))], [.int (nI k), .int (nI s), .ref m0], M)) rfl rfl rfl ?_
              refine ps_st (S' := (171, [(0, .ref m0), (1, .int (nI s)), (3, .int (nI l.length)), (4, .int (nI k)), (6, .int (nI e))], [.int 1, .int (nI k), .int (nI s), .ref m0], M)) rfl rfl rfl ?_
              refine ps_st (S' := (172, [(0, .ref m0), (1, .int (nI s)), (3, .int (nI l.length)), (4, .int (nI k)), (6, .int (nI e))], [.int ((nI k) + 1), .int (nI s), .ref m0], M)) rfl rfl rfl ?_
              rw [nI_add1 (p := k) (k := 1) (x := 1) rfl (by omega)]
              show pl _ _ _ (_, [(0, .ref m0), (1, .int (nI s)), (3, .int (nI l.length)), (4, .int (nI k)), (6, .int (nI e))], [.int (nI (k + 1)), .int (nI s), .ref m0], M) _
              refine ps_st (S' := (174, [(0, .ref m0), (1, .int (nI s)), (3, .int (nI l.length)), (4, .int (nI k)), (6, .int (nI e))], [.int (nI e), .int (nI (k + 1)), .int (nI s), .ref m0], M)) rfl rfl rfl ?_
              refine pl_call (a := [.ref m0, .int (nI s), .int (nI (k + 1)), .int (nI e)]) (rest := []) rfl rfl rfl (rd_nameText (tx := tx) (cN := cN) (A := A) (s := s) (l := l) (a := (k + 1)) (e := e) hR hY (hs) (by omega)) (fun v16 M17 q18 => ?_)
              obtain ⟨rfl, rfl⟩ := q18
              show pl _ _ _ (177, [(0, .ref m0), (1, .int (nI s)), (3, .int (nI l.length)), (4, .int (nI k)), (6, .int (nI e))], [.int (nI (nmN (fun i => l.getD i 0) (k + 1) e))], M) _
              have hnb_174 := nmN_le (fun i => l.getD i 0) (k + 1) e
              refine ps_if (S1 := (187, [], [], M)) (S2 := (180, [(0, .ref m0), (1, .int (nI s)), (3, .int (nI l.length)), (4, .int (nI k)), (6, .int (nI e))], [], M)) rfl rfl rfl (fun c_177 => ?_) (fun c_177 => ?_)
              · have c_177 : (nI (nmN (fun i => l.getD i 0) (k + 1) e)) = 0 := of_decide_eq_true c_177
                have n_177 : nmN (fun i => l.getD i 0) (k + 1) e = 0 := (eq_nI (p := nmN (fun i => l.getD i 0) (k + 1) e) (n := 0) (by omega) (by decide)).mp c_177
                refine ps_st (S' := (188, [], [.int (-1)], M)) rfl rfl rfl ?_
                exact ps_ret rfl rfl (Or.inl ⟨by
                    rw [ty_Ls (e := e) hbr hnb hL (by omega) (by omega) (by omega) hno, if_pos (by omega)], rfl, rfl⟩)
              · have c_177 : ¬ ((nI (nmN (fun i => l.getD i 0) (k + 1) e)) = 0) := of_decide_eq_false c_177
                have n_177 : ¬ (nmN (fun i => l.getD i 0) (k + 1) e = 0) := fun h9 => c_177 ((eq_nI (p := nmN (fun i => l.getD i 0) (k + 1) e) (n := 0) (by omega) (by decide)).mpr h9)
                refine ps_st (S' := (182, [(0, .ref m0), (1, .int (nI s)), (3, .int (nI l.length)), (4, .int (nI k)), (6, .int (nI e))], [.int (nI e)], M)) rfl rfl rfl ?_
                refine ps_st (S' := (183, [(0, .ref m0), (1, .int (nI s)), (3, .int (nI l.length)), (4, .int (nI k)), (6, .int (nI e))], [.int 1, .int (nI e)], M)) rfl rfl rfl ?_
                refine ps_st (S' := (184, [(0, .ref m0), (1, .int (nI s)), (3, .int (nI l.length)), (4, .int (nI k)), (6, .int (nI e))], [.int ((nI e) + 1)], M)) rfl rfl rfl ?_
                rw [nI_add1 (p := e) (k := 1) (x := 1) rfl (by omega)]
                show pl _ _ _ (_, [(0, .ref m0), (1, .int (nI s)), (3, .int (nI l.length)), (4, .int (nI k)), (6, .int (nI e))], [.int (nI (e + 1))], M) _
                refine ps_st (S' := (188, [], [.int (nI (e + 1))], M)) rfl rfl rfl ?_
                exact ps_reti rfl (Or.inr ⟨e + 1, by
                    rw [ty_Ls (e := e) hbr hnb hL (by omega) (by omega) (by omega) hno, if_neg (by omega)], by omega, rfl, rfl⟩)
          · have c_151 : ¬ ((nI (l.getD e 0)) = 59) := of_decide_eq_false c_151
            have n_151 : ¬ (l.getD e 0 = 59) := fun h9 => c_151 ((eq_nI (p := l.getD e 0) (n := 59) (by omega) (by decide)).mpr h9)
            refine ps_st (S' := (157, [(6, .int ((nI e) + 1)), (0, .ref m0), (1, .int (nI s)), (3, .int (nI l.length)), (4, .int (nI k))], [], M)) rfl rfl rfl ?_
            rw [nI_add1 (p := e) (k := 1) (x := 1) rfl (by omega)]
            show pl _ _ _ (_, [(6, .int (nI (e + 1))), (0, .ref m0), (1, .int (nI s)), (3, .int (nI l.length)), (4, .int (nI k))], [], M) _
            refine ps_st (S' := (136, [(0, .ref m0), (1, .int (nI s)), (3, .int (nI l.length)), (4, .int (nI k)), (6, .int (nI (e + 1)))], [], M)) rfl rfl rfl ?_
            exact ih.2 (k) (e + 1)  (hak) (hbr) (hnb) (hL) (by omega) (by
                intro j h1 h2
                by_cases e9 : j = e
                · rw [e9]; exact n_151
                · exact hno j h1 (by omega))
  refine ps_st (S' := (1, [(0, .ref m0), (1, .int (nI s)), (2, .int (nI a))], [.ref m0], M)) rfl rfl rfl ?_
  refine ps_st (S' := (2, [(0, .ref m0), (1, .int (nI s)), (2, .int (nI a))], [.int (nI s), .ref m0], M)) rfl rfl rfl ?_
  refine pl_call (a := [.ref m0, .int (nI s)]) (rest := []) rfl rfl rfl (rd_length (tx := tx) (cN := cN) (A := A) (s := s) (l := l) hR hY (hs)) (fun v19 M20 q21 => ?_)
  obtain ⟨rfl, rfl⟩ := q21
  show pl _ _ _ (5, [(0, .ref m0), (1, .int (nI s)), (2, .int (nI a))], [.int (nI (l.length))], M) _
  refine ps_st (S' := (6, [(3, .int (nI (l.length))), (0, .ref m0), (1, .int (nI s)), (2, .int (nI a))], [], M)) rfl rfl rfl ?_
  refine ps_st (S' := (7, [(3, .int (nI (l.length))), (0, .ref m0), (1, .int (nI s)), (2, .int (nI a))], [.int (nI a)], M)) rfl rfl rfl ?_
  refine ps_st (S' := (9, [(0, .ref m0), (1, .int (nI s)), (2, .int (nI a)), (3, .int (nI (l.length))), (4, .int (nI a))], [], M)) rfl rfl rfl ?_
  exact (LL kf).1 (a)  (by omega) (rfl)
set_option maxHeartbeats 1000000 in
theorem rd_isField {g : xe_G} {m0 : Nat} {q : Nat → Nat} {z : Nat × Nat} {I : rI} {R : rR} {M : mi_H} {tx : List (List Nat)} {cN : Nat} {A : Nat → Nat} {s : Nat} {l : List Nat} (hR : RS g m0 q z I R M)  (hY : SYT tx cN A I R) (hs : s < tx.length ∧ tx.getD s [] = l) : pt (mT g) 217 [.ref m0, .int (nI s)] M (fun v M' => (v = some (.int (nI (fldN l))) ∧ M = M')) := by
  refine pt_in (b := mb_217 g) rfl (fun kf => ?_)
  show pl (mT g) kf (mb_217 g).2 (0, [(0, .ref m0), (1, .int (nI s))], [], M) _
  have hln := hY.ln hs
  have hts := hY.1.2.2
  refine ps_st (S' := (1, [(0, .ref m0), (1, .int (nI s))], [.ref m0], M)) rfl rfl rfl ?_
  refine ps_st (S' := (2, [(0, .ref m0), (1, .int (nI s))], [.int (nI s), .ref m0], M)) rfl rfl rfl ?_
  refine ps_st (S' := (3, [(0, .ref m0), (1, .int (nI s))], [.int 0, .int (nI s), .ref m0], M)) rfl rfl rfl ?_
  refine pl_call (a := [.ref m0, .int (nI s), .int 0]) (rest := []) rfl rfl rfl (rd_fieldText (tx := tx) (cN := cN) (A := A) (s := s) (l := l) (a := 0) hR hY (hs) (by omega)) (fun v1 M2 q3 => ?_)
  rcases q3 with q3 | q3
  · skip
    obtain ⟨q3_s, rfl, rfl⟩ := q3
    show pl _ _ _ (6, [(0, .ref m0), (1, .int (nI s))], [.int (-1)], M) _
    refine ps_st (S' := (7, [(0, .ref m0), (1, .int (nI s))], [.ref m0, .int (-1)], M)) rfl rfl rfl ?_
    refine ps_st (S' := (8, [(0, .ref m0), (1, .int (nI s))], [.int (nI s), .ref m0, .int (-1)], M)) rfl rfl rfl ?_
    refine pl_call (a := [.ref m0, .int (nI s)]) (rest := [.int (-1)]) rfl rfl rfl (rd_length (tx := tx) (cN := cN) (A := A) (s := s) (l := l) hR hY (hs)) (fun v4 M5 q6 => ?_)
    obtain ⟨rfl, rfl⟩ := q6
    show pl _ _ _ (11, [(0, .ref m0), (1, .int (nI s))], [.int (nI (l.length)), .int (-1)], M) _
    refine ps_if2 (S1 := (18, [(0, .ref m0), (1, .int (nI s))], [], M)) (S2 := (14, [(0, .ref m0), (1, .int (nI s))], [], M)) rfl rfl rfl (fun c_11 => ?_) (fun c_11 => ?_)
    rotate_left
    · exact absurd (m1_ne (by omega)) (of_decide_eq_false c_11)
    refine ps_st (S' := (19, [], [.int 0], M)) rfl rfl rfl ?_
    exact ps_ret rfl rfl (⟨congrArg (fun x => some (Value.int (nI x))) (show 0 = fldN l from by
        rw [fld_eq, if_neg (by rw [q3_s]; exact fun h => by cases h)]), rfl⟩)
  · skip
    obtain ⟨x7, q3_s, q3_l, rfl, rfl⟩ := q3
    show pl _ _ _ (6, [(0, .ref m0), (1, .int (nI s))], [.int (nI x7)], M) _
    refine ps_st (S' := (7, [(0, .ref m0), (1, .int (nI s))], [.ref m0, .int (nI x7)], M)) rfl rfl rfl ?_
    refine ps_st (S' := (8, [(0, .ref m0), (1, .int (nI s))], [.int (nI s), .ref m0, .int (nI x7)], M)) rfl rfl rfl ?_
    refine pl_call (a := [.ref m0, .int (nI s)]) (rest := [.int (nI x7)]) rfl rfl rfl (rd_length (tx := tx) (cN := cN) (A := A) (s := s) (l := l) hR hY (hs)) (fun v8 M9 q10 => ?_)
    obtain ⟨rfl, rfl⟩ := q10
    show pl _ _ _ (11, [(0, .ref m0), (1, .int (nI s))], [.int (nI (l.length)), .int (nI x7)], M) _
    refine ps_if2 (S1 := (18, [(0, .ref m0), (1, .int (nI s))], [], M)) (S2 := (14, [(0, .ref m0), (1, .int (nI s))], [], M)) rfl rfl rfl (fun c_11 => ?_) (fun c_11 => ?_)
    · have c_11 : ¬ (nI x7) = (nI (l.length)) := of_decide_eq_true c_11
      have n_11 : ¬ (x7 = l.length) := fun h9 => c_11 ((eq_nI (p := x7) (n := l.length) (by omega) (by omega)).mpr h9)
      refine ps_st (S' := (19, [], [.int 0], M)) rfl rfl rfl ?_
      exact ps_ret rfl rfl (⟨congrArg (fun x => some (Value.int (nI x))) (show 0 = fldN l from by
          rw [fld_eq, if_neg (by rw [q3_s]; exact fun h => n_11 (Option.some.inj h))]), rfl⟩)
    · have c_11 : ¬ (¬ (nI x7) = (nI (l.length))) := of_decide_eq_false c_11
      have n_11 : x7 = l.length := (eq_nI (p := x7) (n := l.length) (by omega) (by omega)).mp (Decidable.not_not.mp c_11)
      refine ps_st (S' := (15, [(0, .ref m0), (1, .int (nI s))], [.int 1], M)) rfl rfl rfl ?_
      refine ps_st (S' := (19, [], [.int 1], M)) rfl rfl rfl ?_
      exact ps_ret rfl rfl (⟨congrArg (fun x => some (Value.int (nI x))) (show 1 = fldN l from by
          rw [fld_eq, if_pos (by rw [q3_s, n_11])]), rfl⟩)
set_option maxHeartbeats 1000000 in
theorem rd_classText {g : xe_G} {m0 : Nat} {q : Nat → Nat} {z : Nat × Nat} {I : rI} {R : rR} {M : mi_H} {tx : List (List Nat)} {cN : Nat} {A : Nat → Nat} {s : Nat} {l : List Nat} (hR : RS g m0 q z I R M)  (hY : SYT tx cN A I R) (hs : s < tx.length ∧ tx.getD s [] = l) : pt (mT g) 194 [.ref m0, .int (nI s)] M (fun v M' => (v = some (.int (nI (clsN l))) ∧ M = M')) := by
  refine pt_in (b := mb_194 g) rfl (fun kf => ?_)
  show pl (mT g) kf (mb_194 g).2 (0, [(0, .ref m0), (1, .int (nI s))], [], M) _
  have hln := hY.ln hs
  have hts := hY.1.2.2
  refine ps_st (S' := (1, [(0, .ref m0), (1, .int (nI s))], [.ref m0], M)) rfl rfl rfl ?_
  refine ps_st (S' := (2, [(0, .ref m0), (1, .int (nI s))], [.int (nI s), .ref m0], M)) rfl rfl rfl ?_
  refine pl_call (a := [.ref m0, .int (nI s)]) (rest := []) rfl rfl rfl (rd_length (tx := tx) (cN := cN) (A := A) (s := s) (l := l) hR hY (hs)) (fun v1 M2 q3 => ?_)
  obtain ⟨rfl, rfl⟩ := q3
  show pl _ _ _ (5, [(0, .ref m0), (1, .int (nI s))], [.int (nI (l.length))], M) _
  refine ps_if (S1 := (41, [(0, .ref m0), (1, .int (nI s))], [], M)) (S2 := (8, [(0, .ref m0), (1, .int (nI s))], [], M)) rfl rfl rfl (fun c_5 => ?_) (fun c_5 => ?_)
  · have c_5 : (nI (l.length)) ≤ 0 := of_decide_eq_true c_5
    have n_5 : l.length ≤ 0 := (le_nI (p := l.length) (n := 0) (by omega) (by decide)).mp c_5
    refine ps_st (S' := (42, [(0, .ref m0), (1, .int (nI s))], [.ref m0], M)) rfl rfl rfl ?_
    refine ps_st (S' := (43, [(0, .ref m0), (1, .int (nI s))], [.int (nI s), .ref m0], M)) rfl rfl rfl ?_
    refine ps_st (S' := (44, [(0, .ref m0), (1, .int (nI s))], [.int 0, .int (nI s), .ref m0], M)) rfl rfl rfl ?_
    refine ps_st (S' := (45, [(0, .ref m0), (1, .int (nI s))], [.ref m0, .int 0, .int (nI s), .ref m0], M)) rfl rfl rfl ?_
    refine ps_st (S' := (46, [(0, .ref m0), (1, .int (nI s))], [.int (nI s), .ref m0, .int 0, .int (nI s), .ref m0], M)) rfl rfl rfl ?_
    refine pl_call (a := [.ref m0, .int (nI s)]) (rest := [.int 0, .int (nI s), .ref m0]) rfl rfl rfl (rd_length (tx := tx) (cN := cN) (A := A) (s := s) (l := l) hR hY (hs)) (fun v4 M5 q6 => ?_)
    obtain ⟨rfl, rfl⟩ := q6
    show pl _ _ _ (49, [(0, .ref m0), (1, .int (nI s))], [.int (nI (l.length)), .int 0, .int (nI s), .ref m0], M) _
    refine pl_call (a := [.ref m0, .int (nI s), .int 0, .int (nI (l.length))]) (rest := []) rfl rfl rfl (rd_nameText (tx := tx) (cN := cN) (A := A) (s := s) (l := l) (a := 0) (e := (l.length)) hR hY (hs) (by omega)) (fun v7 M8 q9 => ?_)
    obtain ⟨rfl, rfl⟩ := q9
    show pl _ _ _ (52, [], [.int (nI (nmN (fun i => l.getD i 0) 0 (l.length)))], M) _
    have hnb_49 := nmN_le (fun i => l.getD i 0) 0 (l.length)
    exact ps_reti rfl (⟨congrArg (fun x => some (Value.int (nI x))) (show nmN (fun i => l.getD i 0) 0 (l.length) = clsN l from by
        unfold clsN nmN
        rw [if_neg (show ¬ l.getD 0 0 = 91 by rw [List.getD_eq_getElem?_getD, List.getElem?_eq_none (by omega)]; decide)]
        rfl), rfl⟩)
  · have c_5 : ¬ ((nI (l.length)) ≤ 0) := of_decide_eq_false c_5
    have n_5 : ¬ (l.length ≤ 0) := fun h9 => c_5 ((le_nI (p := l.length) (n := 0) (by omega) (by decide)).mpr h9)
    refine ps_st (S' := (9, [(0, .ref m0), (1, .int (nI s))], [.ref m0], M)) rfl rfl rfl ?_
    refine ps_st (S' := (10, [(0, .ref m0), (1, .int (nI s))], [.int (nI s), .ref m0], M)) rfl rfl rfl ?_
    refine ps_st (S' := (11, [(0, .ref m0), (1, .int (nI s))], [.int 0, .int (nI s), .ref m0], M)) rfl rfl rfl ?_
    refine pl_call (a := [.ref m0, .int (nI s), .int 0]) (rest := []) rfl rfl rfl (rd_at (tx := tx) (cN := cN) (A := A) (s := s) (l := l) (k := 0) hR hY (hs) (by omega)) (fun v10 M11 q12 => ?_)
    obtain ⟨rfl, rfl⟩ := q12
    show pl _ _ _ (14, [(0, .ref m0), (1, .int (nI s))], [.int (nI (l.getD 0 0))], M) _
    have hc_11 := hY.ch hs (k := 0) (by omega)
    refine ps_st (S' := (16, [(0, .ref m0), (1, .int (nI s))], [.int 91, .int (nI (l.getD 0 0))], M)) rfl rfl rfl ?_
    refine ps_if2 (S1 := (41, [(0, .ref m0), (1, .int (nI s))], [], M)) (S2 := (19, [(0, .ref m0), (1, .int (nI s))], [], M)) rfl rfl rfl (fun c_16 => ?_) (fun c_16 => ?_)
    · have c_16 : ¬ (nI (l.getD 0 0)) = 91 := of_decide_eq_true c_16
      have n_16 : ¬ (l.getD 0 0 = 91) := fun h9 => c_16 ((eq_nI (p := l.getD 0 0) (n := 91) (by omega) (by decide)).mpr h9)
      refine ps_st (S' := (42, [(0, .ref m0), (1, .int (nI s))], [.ref m0], M)) rfl rfl rfl ?_
      refine ps_st (S' := (43, [(0, .ref m0), (1, .int (nI s))], [.int (nI s), .ref m0], M)) rfl rfl rfl ?_
      refine ps_st (S' := (44, [(0, .ref m0), (1, .int (nI s))], [.int 0, .int (nI s), .ref m0], M)) rfl rfl rfl ?_
      refine ps_st (S' := (45, [(0, .ref m0), (1, .int (nI s))], [.ref m0, .int 0, .int (nI s), .ref m0], M)) rfl rfl rfl ?_
      refine ps_st (S' := (46, [(0, .ref m0), (1, .int (nI s))], [.int (nI s), .ref m0, .int 0, .int (nI s), .ref m0], M)) rfl rfl rfl ?_
      refine pl_call (a := [.ref m0, .int (nI s)]) (rest := [.int 0, .int (nI s), .ref m0]) rfl rfl rfl (rd_length (tx := tx) (cN := cN) (A := A) (s := s) (l := l) hR hY (hs)) (fun v13 M14 q15 => ?_)
      obtain ⟨rfl, rfl⟩ := q15
      show pl _ _ _ (49, [(0, .ref m0), (1, .int (nI s))], [.int (nI (l.length)), .int 0, .int (nI s), .ref m0], M) _
      refine pl_call (a := [.ref m0, .int (nI s), .int 0, .int (nI (l.length))]) (rest := []) rfl rfl rfl (rd_nameText (tx := tx) (cN := cN) (A := A) (s := s) (l := l) (a := 0) (e := (l.length)) hR hY (hs) (by omega)) (fun v16 M17 q18 => ?_)
      obtain ⟨rfl, rfl⟩ := q18
      show pl _ _ _ (52, [], [.int (nI (nmN (fun i => l.getD i 0) 0 (l.length)))], M) _
      have hnb_49 := nmN_le (fun i => l.getD i 0) 0 (l.length)
      exact ps_reti rfl (⟨congrArg (fun x => some (Value.int (nI x))) (show nmN (fun i => l.getD i 0) 0 (l.length) = clsN l from by
          unfold clsN nmN
          rw [if_neg (show ¬ l.getD 0 0 = 91 by omega)]
          rfl), rfl⟩)
    · have c_16 : ¬ (¬ (nI (l.getD 0 0)) = 91) := of_decide_eq_false c_16
      have n_16 : l.getD 0 0 = 91 := (eq_nI (p := l.getD 0 0) (n := 91) (by omega) (by decide)).mp (Decidable.not_not.mp c_16)
      refine ps_st (S' := (20, [(0, .ref m0), (1, .int (nI s))], [.ref m0], M)) rfl rfl rfl ?_
      refine ps_st (S' := (21, [(0, .ref m0), (1, .int (nI s))], [.int (nI s), .ref m0], M)) rfl rfl rfl ?_
      refine ps_st (S' := (22, [(0, .ref m0), (1, .int (nI s))], [.int 0, .int (nI s), .ref m0], M)) rfl rfl rfl ?_
      refine pl_call (a := [.ref m0, .int (nI s), .int 0]) (rest := []) rfl rfl rfl (rd_fieldText (tx := tx) (cN := cN) (A := A) (s := s) (l := l) (a := 0) hR hY (hs) (by omega)) (fun v19 M20 q21 => ?_)
      rcases q21 with q21 | q21
      · skip
        obtain ⟨q22_s, rfl, rfl⟩ := q21
        show pl _ _ _ (25, [(0, .ref m0), (1, .int (nI s))], [.int (-1)], M) _
        refine ps_st (S' := (26, [(0, .ref m0), (1, .int (nI s))], [.ref m0, .int (-1)], M)) rfl rfl rfl ?_
        refine ps_st (S' := (27, [(0, .ref m0), (1, .int (nI s))], [.int (nI s), .ref m0, .int (-1)], M)) rfl rfl rfl ?_
        refine pl_call (a := [.ref m0, .int (nI s)]) (rest := [.int (-1)]) rfl rfl rfl (rd_length (tx := tx) (cN := cN) (A := A) (s := s) (l := l) hR hY (hs)) (fun v22 M23 q24 => ?_)
        obtain ⟨rfl, rfl⟩ := q24
        show pl _ _ _ (30, [(0, .ref m0), (1, .int (nI s))], [.int (nI (l.length)), .int (-1)], M) _
        refine ps_if2 (S1 := (37, [(0, .ref m0), (1, .int (nI s))], [], M)) (S2 := (33, [(0, .ref m0), (1, .int (nI s))], [], M)) rfl rfl rfl (fun c_30 => ?_) (fun c_30 => ?_)
        rotate_left
        · exact absurd (m1_ne (by omega)) (of_decide_eq_false c_30)
        refine ps_st (S' := (38, [(0, .ref m0), (1, .int (nI s))], [.int 0], M)) rfl rfl rfl ?_
        refine ps_st (S' := (52, [], [.int 0], M)) rfl rfl rfl ?_
        exact ps_ret rfl rfl (⟨congrArg (fun x => some (Value.int (nI x))) (show 0 = clsN l from by
            unfold clsN
            rw [if_pos (by omega), show (if 0 < shN l ∧ shN l < 4096 then 1 else 0) = fldN l from rfl, fld_eq, if_neg (by rw [q22_s]; exact fun h => by cases h)]), rfl⟩)
      · skip
        obtain ⟨x25, q22_s, q22_l, rfl, rfl⟩ := q21
        show pl _ _ _ (25, [(0, .ref m0), (1, .int (nI s))], [.int (nI x25)], M) _
        refine ps_st (S' := (26, [(0, .ref m0), (1, .int (nI s))], [.ref m0, .int (nI x25)], M)) rfl rfl rfl ?_
        refine ps_st (S' := (27, [(0, .ref m0), (1, .int (nI s))], [.int (nI s), .ref m0, .int (nI x25)], M)) rfl rfl rfl ?_
        refine pl_call (a := [.ref m0, .int (nI s)]) (rest := [.int (nI x25)]) rfl rfl rfl (rd_length (tx := tx) (cN := cN) (A := A) (s := s) (l := l) hR hY (hs)) (fun v26 M27 q28 => ?_)
        obtain ⟨rfl, rfl⟩ := q28
        show pl _ _ _ (30, [(0, .ref m0), (1, .int (nI s))], [.int (nI (l.length)), .int (nI x25)], M) _
        refine ps_if2 (S1 := (37, [(0, .ref m0), (1, .int (nI s))], [], M)) (S2 := (33, [(0, .ref m0), (1, .int (nI s))], [], M)) rfl rfl rfl (fun c_30 => ?_) (fun c_30 => ?_)
        · have c_30 : ¬ (nI x25) = (nI (l.length)) := of_decide_eq_true c_30
          have n_30 : ¬ (x25 = l.length) := fun h9 => c_30 ((eq_nI (p := x25) (n := l.length) (by omega) (by omega)).mpr h9)
          refine ps_st (S' := (38, [(0, .ref m0), (1, .int (nI s))], [.int 0], M)) rfl rfl rfl ?_
          refine ps_st (S' := (52, [], [.int 0], M)) rfl rfl rfl ?_
          exact ps_ret rfl rfl (⟨congrArg (fun x => some (Value.int (nI x))) (show 0 = clsN l from by
              unfold clsN
              rw [if_pos (by omega), show (if 0 < shN l ∧ shN l < 4096 then 1 else 0) = fldN l from rfl, fld_eq, if_neg (by rw [q22_s]; exact fun h => n_30 (Option.some.inj h))]), rfl⟩)
        · have c_30 : ¬ (¬ (nI x25) = (nI (l.length))) := of_decide_eq_false c_30
          have n_30 : x25 = l.length := (eq_nI (p := x25) (n := l.length) (by omega) (by omega)).mp (Decidable.not_not.mp c_30)
          refine ps_st (S' := (34, [(0, .ref m0), (1, .int (nI s))], [.int 1], M)) rfl rfl rfl ?_
          refine ps_st (S' := (52, [], [.int 1], M)) rfl rfl rfl ?_
          exact ps_ret rfl rfl (⟨congrArg (fun x => some (Value.int (nI x))) (show 1 = clsN l from by
              unfold clsN
              rw [if_pos (by omega), show (if 0 < shN l ∧ shN l < 4096 then 1 else 0) = fldN l from rfl, fld_eq, if_pos (by rw [q22_s, n_30])]), rfl⟩)
set_option maxHeartbeats 1000000 in
theorem rd_places0 {g : xe_G} {m0 : Nat} {q : Nat → Nat} {z : Nat × Nat} {I : rI} {R : rR} {M : mi_H} {tx : List (List Nat)} {cN : Nat} {A : Nat → Nat} {s : Nat} {l : List Nat} {k0 W : Nat} (hR : RS g m0 q z I R M)  (hY : SYT tx cN A I R) (hs : s < tx.length ∧ tx.getD s [] = l) (h0 : s_pl (fun i => l.getD i 0) l.length (l.length - 1) 1 0 = some (k0, W)) (hk0 : k0 < l.length ∧ l.getD k0 0 = 41) : pt (mT g) 233 [.ref m0, .int (nI s)] M (fun v M' => (v = some (.int (nI (W))) ∧ M = M')) := by
  refine pt_in (b := mb_233 g) rfl (fun kf => ?_)
  show pl (mT g) kf (mb_233 g).2 (0, [(0, .ref m0), (1, .int (nI s))], [], M) _
  have hln := hY.ln hs
  have hts := hY.1.2.2
  have LL : ∀ (kf : Nat), (∀ (k w : Nat), (1 ≤ k ∧ k ≤ l.length ∧ w ≤ 2 * k) → (s_pl (fun i => l.getD i 0) l.length (l.length - k) k w = some (k0, W)) →  pl (mT g) kf (mb_233 g).2 (4, [(0, .ref m0), (1, .int (nI s)), (2, .int (nI k)), (3, .int (nI w))], [], M) (fun v M' => (v = some (.int (nI (W))) ∧ M = M'))) := by
    intro kf
    induction kf with
    | zero => exact (by intros; exact pl_0)
    | succ kf ih =>
      intro k w hk hp
      have hlt : k < l.length := Nat.not_le.mp (fun h9 => by rw [s_pl_0 (by omega)] at hp; cases hp; omega)
      refine ps_st1 (S' := (5, [(0, .ref m0), (1, .int (nI s)), (2, .int (nI k)), (3, .int (nI w))], [.ref m0], M)) rfl rfl rfl ?_
      refine ps_st (S' := (6, [(0, .ref m0), (1, .int (nI s)), (2, .int (nI k)), (3, .int (nI w))], [.int (nI s), .ref m0], M)) rfl rfl rfl ?_
      refine ps_st (S' := (7, [(0, .ref m0), (1, .int (nI s)), (2, .int (nI k)), (3, .int (nI w))], [.int (nI k), .int (nI s), .ref m0], M)) rfl rfl rfl ?_
      refine pl_call (a := [.ref m0, .int (nI s), .int (nI k)]) (rest := []) rfl rfl rfl (rd_at (tx := tx) (cN := cN) (A := A) (s := s) (l := l) (k := k) hR hY (hs) (by omega)) (fun v1 M2 q3 => ?_)
      obtain ⟨rfl, rfl⟩ := q3
      show pl _ _ _ (10, [(0, .ref m0), (1, .int (nI s)), (2, .int (nI k)), (3, .int (nI w))], [.int (nI (l.getD k 0))], M) _
      have hc_7 := hY.ch hs (k := k) (by omega)
      refine ps_st (S' := (12, [(0, .ref m0), (1, .int (nI s)), (2, .int (nI k)), (3, .int (nI w))], [.int 41, .int (nI (l.getD k 0))], M)) rfl rfl rfl ?_
      refine ps_if2 (S1 := (55, [(0, .ref m0), (1, .int (nI s)), (2, .int (nI k)), (3, .int (nI w))], [], M)) (S2 := (15, [(0, .ref m0), (1, .int (nI s)), (2, .int (nI k)), (3, .int (nI w))], [], M)) rfl rfl rfl (fun c_12 => ?_) (fun c_12 => ?_)
      · have c_12 : (nI (l.getD k 0)) = 41 := of_decide_eq_true c_12
        have n_12 : l.getD k 0 = 41 := (eq_nI (p := l.getD k 0) (n := 41) (by omega) (by decide)).mp c_12
        refine ps_st (S' := (56, [(0, .ref m0), (1, .int (nI s)), (2, .int (nI k)), (3, .int (nI w))], [.int (nI w)], M)) rfl rfl rfl ?_
        exact ps_reti rfl (⟨congrArg (fun x => some (Value.int (nI x))) (show w = W from by rw [s_pl_0 (by omega)] at hp; cases hp; rfl), rfl⟩)
      · have c_12 : ¬ ((nI (l.getD k 0)) = 41) := of_decide_eq_false c_12
        have n_12 : ¬ (l.getD k 0 = 41) := fun h9 => c_12 ((eq_nI (p := l.getD k 0) (n := 41) (by omega) (by decide)).mpr h9)
        refine ps_st (S' := (16, [(0, .ref m0), (1, .int (nI s)), (2, .int (nI k)), (3, .int (nI w))], [.ref m0], M)) rfl rfl rfl ?_
        refine ps_st (S' := (17, [(0, .ref m0), (1, .int (nI s)), (2, .int (nI k)), (3, .int (nI w))], [.int (nI s), .ref m0], M)) rfl rfl rfl ?_
        refine ps_st (S' := (18, [(0, .ref m0), (1, .int (nI s)), (2, .int (nI k)), (3, .int (nI w))], [.int (nI k), .int (nI s), .ref m0], M)) rfl rfl rfl ?_
        refine pl_call (a := [.ref m0, .int (nI s), .int (nI k)]) (rest := []) rfl rfl rfl (rd_at (tx := tx) (cN := cN) (A := A) (s := s) (l := l) (k := k) hR hY (hs) (by omega)) (fun v4 M5 q6 => ?_)
        obtain ⟨rfl, rfl⟩ := q6
        show pl _ _ _ (21, [(0, .ref m0), (1, .int (nI s)), (2, .int (nI k)), (3, .int (nI w))], [.int (nI (l.getD k 0))], M) _
        have hc_18 := hY.ch hs (k := k) (by omega)
        refine ps_st (S' := (23, [(4, .int (nI (l.getD k 0))), (0, .ref m0), (1, .int (nI s)), (2, .int (nI k)), (3, .int (nI w))], [], M)) rfl rfl rfl ?_
        refine ps_st (S' := (24, [(4, .int (nI (l.getD k 0))), (0, .ref m0), (1, .int (nI s)), (2, .int (nI k)), (3, .int (nI w))], [.int (nI w)], M)) rfl rfl rfl ?_
        refine ps_st (S' := (26, [(4, .int (nI (l.getD k 0))), (0, .ref m0), (1, .int (nI s)), (2, .int (nI k)), (3, .int (nI w))], [.int (nI (l.getD k 0)), .int (nI w)], M)) rfl rfl rfl ?_
        refine ps_st (S' := (28, [(4, .int (nI (l.getD k 0))), (0, .ref m0), (1, .int (nI s)), (2, .int (nI k)), (3, .int (nI w))], [.int 74, .int (nI (l.getD k 0)), .int (nI w)], M)) rfl rfl rfl ?_
        refine ps_if2 (S1 := (38, [(0, .ref m0), (1, .int (nI s)), (2, .int (nI k))], [.int (nI w)], M)) (S2 := (31, [(4, .int (nI (l.getD k 0))), (0, .ref m0), (1, .int (nI s)), (2, .int (nI k)), (3, .int (nI w))], [.int (nI w)], M)) rfl rfl rfl (fun c_28 => ?_) (fun c_28 => ?_)
        · have c_28 : (nI (l.getD k 0)) = 74 := of_decide_eq_true c_28
          have n_28 : l.getD k 0 = 74 := (eq_nI (p := l.getD k 0) (n := 74) (by omega) (by decide)).mp c_28
          refine ps_st (S' := (39, [(0, .ref m0), (1, .int (nI s)), (2, .int (nI k))], [.int 2, .int (nI w)], M)) rfl rfl rfl ?_
          refine ps_st (S' := (43, [(0, .ref m0), (1, .int (nI s)), (2, .int (nI k))], [.int 2, .int (nI w)], M)) rfl rfl rfl ?_
          refine ps_st (S' := (44, [(0, .ref m0), (1, .int (nI s)), (2, .int (nI k))], [.int ((nI w) + 2)], M)) rfl rfl rfl ?_
          rw [nI_add1 (p := w) (k := 2) (x := 2) rfl (by omega)]
          show pl _ _ _ (_, [(0, .ref m0), (1, .int (nI s)), (2, .int (nI k))], [.int (nI (w + 2))], M) _
          refine ps_st (S' := (45, [(3, .int (nI (w + 2))), (0, .ref m0), (1, .int (nI s)), (2, .int (nI k))], [], M)) rfl rfl rfl ?_
          refine ps_st (S' := (46, [(3, .int (nI (w + 2))), (0, .ref m0), (1, .int (nI s)), (2, .int (nI k))], [.ref m0], M)) rfl rfl rfl ?_
          refine ps_st (S' := (47, [(3, .int (nI (w + 2))), (0, .ref m0), (1, .int (nI s)), (2, .int (nI k))], [.int (nI s), .ref m0], M)) rfl rfl rfl ?_
          refine ps_st (S' := (48, [(3, .int (nI (w + 2))), (0, .ref m0), (1, .int (nI s)), (2, .int (nI k))], [.int (nI k), .int (nI s), .ref m0], M)) rfl rfl rfl ?_
          refine pl_call (a := [.ref m0, .int (nI s), .int (nI k)]) (rest := []) rfl rfl rfl (rd_fieldText (tx := tx) (cN := cN) (A := A) (s := s) (l := l) (a := k) hR hY (hs) (by omega)) (fun v7 M8 q9 => ?_)
          rcases q9 with q9 | q9
          · skip
            obtain ⟨q48_s, rfl, rfl⟩ := q9
            show pl _ _ _ (51, [(3, .int (nI (w + 2))), (0, .ref m0), (1, .int (nI s)), (2, .int (nI k))], [.int (-1)], M) _
            rw [s_pl_bad (by omega) q48_s] at hp
            cases hp
          · skip
            obtain ⟨x10, q48_s, q48_l, rfl, rfl⟩ := q9
            show pl _ _ _ (51, [(3, .int (nI (w + 2))), (0, .ref m0), (1, .int (nI s)), (2, .int (nI k))], [.int (nI x10)], M) _
            refine ps_st (S' := (52, [(2, .int (nI x10)), (3, .int (nI (w + 2))), (0, .ref m0), (1, .int (nI s))], [], M)) rfl rfl rfl ?_
            refine ps_st (S' := (4, [(0, .ref m0), (1, .int (nI s)), (2, .int (nI x10)), (3, .int (nI (w + 2)))], [], M)) rfl rfl rfl ?_
            exact ih (x10) (w + 2)  (by omega) (by
                rw [← hp, s_pl_step (by omega) q48_s, show pW (l.getD k 0) = 2 by unfold pW; rw [if_pos (by omega)]])
        · have c_28 : ¬ ((nI (l.getD k 0)) = 74) := of_decide_eq_false c_28
          have n_28 : ¬ (l.getD k 0 = 74) := fun h9 => c_28 ((eq_nI (p := l.getD k 0) (n := 74) (by omega) (by decide)).mpr h9)
          refine ps_st (S' := (33, [(4, .int (nI (l.getD k 0))), (0, .ref m0), (1, .int (nI s)), (2, .int (nI k)), (3, .int (nI w))], [.int (nI (l.getD k 0)), .int (nI w)], M)) rfl rfl rfl ?_
          refine ps_st (S' := (35, [(4, .int (nI (l.getD k 0))), (0, .ref m0), (1, .int (nI s)), (2, .int (nI k)), (3, .int (nI w))], [.int 68, .int (nI (l.getD k 0)), .int (nI w)], M)) rfl rfl rfl ?_
          refine ps_if2 (S1 := (42, [(4, .int (nI (l.getD k 0))), (0, .ref m0), (1, .int (nI s)), (2, .int (nI k)), (3, .int (nI w))], [.int (nI w)], M)) (S2 := (38, [(0, .ref m0), (1, .int (nI s)), (2, .int (nI k))], [.int (nI w)], M)) rfl rfl rfl (fun c_35 => ?_) (fun c_35 => ?_)
          · have c_35 : ¬ (nI (l.getD k 0)) = 68 := of_decide_eq_true c_35
            have n_35 : ¬ (l.getD k 0 = 68) := fun h9 => c_35 ((eq_nI (p := l.getD k 0) (n := 68) (by omega) (by decide)).mpr h9)
            refine ps_st (S' := (43, [(0, .ref m0), (1, .int (nI s)), (2, .int (nI k))], [.int 1, .int (nI w)], M)) rfl rfl rfl ?_
            refine ps_st (S' := (44, [(0, .ref m0), (1, .int (nI s)), (2, .int (nI k))], [.int ((nI w) + 1)], M)) rfl rfl rfl ?_
            rw [nI_add1 (p := w) (k := 1) (x := 1) rfl (by omega)]
            show pl _ _ _ (_, [(0, .ref m0), (1, .int (nI s)), (2, .int (nI k))], [.int (nI (w + 1))], M) _
            refine ps_st (S' := (45, [(3, .int (nI (w + 1))), (0, .ref m0), (1, .int (nI s)), (2, .int (nI k))], [], M)) rfl rfl rfl ?_
            refine ps_st (S' := (46, [(3, .int (nI (w + 1))), (0, .ref m0), (1, .int (nI s)), (2, .int (nI k))], [.ref m0], M)) rfl rfl rfl ?_
            refine ps_st (S' := (47, [(3, .int (nI (w + 1))), (0, .ref m0), (1, .int (nI s)), (2, .int (nI k))], [.int (nI s), .ref m0], M)) rfl rfl rfl ?_
            refine ps_st (S' := (48, [(3, .int (nI (w + 1))), (0, .ref m0), (1, .int (nI s)), (2, .int (nI k))], [.int (nI k), .int (nI s), .ref m0], M)) rfl rfl rfl ?_
            refine pl_call (a := [.ref m0, .int (nI s), .int (nI k)]) (rest := []) rfl rfl rfl (rd_fieldText (tx := tx) (cN := cN) (A := A) (s := s) (l := l) (a := k) hR hY (hs) (by omega)) (fun v11 M12 q13 => ?_)
            rcases q13 with q13 | q13
            · skip
              obtain ⟨q48_s, rfl, rfl⟩ := q13
              show pl _ _ _ (51, [(3, .int (nI (w + 1))), (0, .ref m0), (1, .int (nI s)), (2, .int (nI k))], [.int (-1)], M) _
              rw [s_pl_bad (by omega) q48_s] at hp
              cases hp
            · skip
              obtain ⟨x14, q48_s, q48_l, rfl, rfl⟩ := q13
              show pl _ _ _ (51, [(3, .int (nI (w + 1))), (0, .ref m0), (1, .int (nI s)), (2, .int (nI k))], [.int (nI x14)], M) _
              refine ps_st (S' := (52, [(2, .int (nI x14)), (3, .int (nI (w + 1))), (0, .ref m0), (1, .int (nI s))], [], M)) rfl rfl rfl ?_
              refine ps_st (S' := (4, [(0, .ref m0), (1, .int (nI s)), (2, .int (nI x14)), (3, .int (nI (w + 1)))], [], M)) rfl rfl rfl ?_
              exact ih (x14) (w + 1)  (by omega) (by
                  rw [← hp, s_pl_step (by omega) q48_s, show pW (l.getD k 0) = 1 by unfold pW; rw [if_neg (by omega)]])
          · have c_35 : ¬ (¬ (nI (l.getD k 0)) = 68) := of_decide_eq_false c_35
            have n_35 : l.getD k 0 = 68 := (eq_nI (p := l.getD k 0) (n := 68) (by omega) (by decide)).mp (Decidable.not_not.mp c_35)
            refine ps_st (S' := (39, [(0, .ref m0), (1, .int (nI s)), (2, .int (nI k))], [.int 2, .int (nI w)], M)) rfl rfl rfl ?_
            refine ps_st (S' := (43, [(0, .ref m0), (1, .int (nI s)), (2, .int (nI k))], [.int 2, .int (nI w)], M)) rfl rfl rfl ?_
            refine ps_st (S' := (44, [(0, .ref m0), (1, .int (nI s)), (2, .int (nI k))], [.int ((nI w) + 2)], M)) rfl rfl rfl ?_
            rw [nI_add1 (p := w) (k := 2) (x := 2) rfl (by omega)]
            show pl _ _ _ (_, [(0, .ref m0), (1, .int (nI s)), (2, .int (nI k))], [.int (nI (w + 2))], M) _
            refine ps_st (S' := (45, [(3, .int (nI (w + 2))), (0, .ref m0), (1, .int (nI s)), (2, .int (nI k))], [], M)) rfl rfl rfl ?_
            refine ps_st (S' := (46, [(3, .int (nI (w + 2))), (0, .ref m0), (1, .int (nI s)), (2, .int (nI k))], [.ref m0], M)) rfl rfl rfl ?_
            refine ps_st (S' := (47, [(3, .int (nI (w + 2))), (0, .ref m0), (1, .int (nI s)), (2, .int (nI k))], [.int (nI s), .ref m0], M)) rfl rfl rfl ?_
            refine ps_st (S' := (48, [(3, .int (nI (w + 2))), (0, .ref m0), (1, .int (nI s)), (2, .int (nI k))], [.int (nI k), .int (nI s), .ref m0], M)) rfl rfl rfl ?_
            refine pl_call (a := [.ref m0, .int (nI s), .int (nI k)]) (rest := []) rfl rfl rfl (rd_fieldText (tx := tx) (cN := cN) (A := A) (s := s) (l := l) (a := k) hR hY (hs) (by omega)) (fun v15 M16 q17 => ?_)
            rcases q17 with q17 | q17
            · skip
              obtain ⟨q48_s, rfl, rfl⟩ := q17
              show pl _ _ _ (51, [(3, .int (nI (w + 2))), (0, .ref m0), (1, .int (nI s)), (2, .int (nI k))], [.int (-1)], M) _
              rw [s_pl_bad (by omega) q48_s] at hp
              cases hp
            · skip
              obtain ⟨x18, q48_s, q48_l, rfl, rfl⟩ := q17
              show pl _ _ _ (51, [(3, .int (nI (w + 2))), (0, .ref m0), (1, .int (nI s)), (2, .int (nI k))], [.int (nI x18)], M) _
              refine ps_st (S' := (52, [(2, .int (nI x18)), (3, .int (nI (w + 2))), (0, .ref m0), (1, .int (nI s))], [], M)) rfl rfl rfl ?_
              refine ps_st (S' := (4, [(0, .ref m0), (1, .int (nI s)), (2, .int (nI x18)), (3, .int (nI (w + 2)))], [], M)) rfl rfl rfl ?_
              exact ih (x18) (w + 2)  (by omega) (by
                  rw [← hp, s_pl_step (by omega) q48_s, show pW (l.getD k 0) = 2 by unfold pW; rw [if_pos (by omega)]])
  refine ps_st (S' := (1, [(0, .ref m0), (1, .int (nI s))], [.int 1], M)) rfl rfl rfl ?_
  refine ps_st (S' := (2, [(2, .int 1), (0, .ref m0), (1, .int (nI s))], [], M)) rfl rfl rfl ?_
  refine ps_st (S' := (3, [(2, .int 1), (0, .ref m0), (1, .int (nI s))], [.int 0], M)) rfl rfl rfl ?_
  refine ps_st (S' := (4, [(0, .ref m0), (1, .int (nI s)), (2, .int 1), (3, .int 0)], [], M)) rfl rfl rfl ?_
  exact (LL kf) (1) (0)  (by omega) (h0)
set_option maxHeartbeats 1000000 in
theorem rd_isMethod {g : xe_G} {m0 : Nat} {q : Nat → Nat} {z : Nat × Nat} {I : rI} {R : rR} {M : mi_H} {tx : List (List Nat)} {cN : Nat} {A : Nat → Nat} {s : Nat} {l : List Nat} (hR : RS g m0 q z I R M)  (hY : SYT tx cN A I R) (hs : s < tx.length ∧ tx.getD s [] = l) : pt (mT g) 218 [.ref m0, .int (nI s)] M (fun v M' => (v = some (.int (nI (mthN l))) ∧ M = M')) := by
  refine pt_in (b := mb_218 g) rfl (fun kf => ?_)
  show pl (mT g) kf (mb_218 g).2 (0, [(0, .ref m0), (1, .int (nI s))], [], M) _
  have hln := hY.ln hs
  have hts := hY.1.2.2
  have LL : ∀ (kf : Nat), (∀ (k w : Nat), (1 ≤ k ∧ k ≤ l.length ∧ w ≤ 2 * k) → (0 < l.length ∧ l.getD 0 0 = 40) → (s_pl (fun i => l.getD i 0) l.length (l.length - k) k w = s_pl (fun i => l.getD i 0) l.length (l.length - 1) 1 0) →  pl (mT g) kf (mb_218 g).2 (25, [(0, .ref m0), (1, .int (nI s)), (2, .int (nI l.length)), (3, .int (nI k))], [], M) (fun v M' => (v = some (.int (nI (mthN l))) ∧ M = M'))) := by
    intro kf
    induction kf with
    | zero => exact (by intros; exact pl_0)
    | succ kf ih =>
      intro k w hk h40 hp
      refine ps_st1 (S' := (26, [(0, .ref m0), (1, .int (nI s)), (2, .int (nI l.length)), (3, .int (nI k))], [.int (nI k)], M)) rfl rfl rfl ?_
      refine ps_st (S' := (27, [(0, .ref m0), (1, .int (nI s)), (2, .int (nI l.length)), (3, .int (nI k))], [.int (nI l.length), .int (nI k)], M)) rfl rfl rfl ?_
      refine ps_if2 (S1 := (54, [(0, .ref m0), (1, .int (nI s)), (2, .int (nI l.length)), (3, .int (nI k))], [], M)) (S2 := (30, [(0, .ref m0), (1, .int (nI s)), (2, .int (nI l.length)), (3, .int (nI k))], [], M)) rfl rfl rfl (fun c_27 => ?_) (fun c_27 => ?_)
      · have c_27 : (nI l.length) ≤ (nI k) := of_decide_eq_true c_27
        have n_27 : l.length ≤ k := (le_nI (p := l.length) (n := k) (by omega) (by omega)).mp c_27
        refine ps_st (S' := (55, [(0, .ref m0), (1, .int (nI s)), (2, .int (nI l.length)), (3, .int (nI k))], [.int (nI k)], M)) rfl rfl rfl ?_
        refine ps_st (S' := (56, [(0, .ref m0), (1, .int (nI s)), (2, .int (nI l.length)), (3, .int (nI k))], [.int (nI l.length), .int (nI k)], M)) rfl rfl rfl ?_
        refine ps_if2 (S1 := (61, [(0, .ref m0), (1, .int (nI s)), (2, .int (nI l.length)), (3, .int (nI k))], [], M)) (S2 := (59, [(0, .ref m0), (1, .int (nI s)), (2, .int (nI l.length)), (3, .int (nI k))], [], M)) rfl rfl rfl (fun c_56 => ?_) (fun c_56 => ?_)
        · have c_56 : (nI k) < (nI l.length) := of_decide_eq_true c_56
          have n_56 : k < l.length := (lt_nI (p := k) (n := l.length) (by omega) (by omega)).mp c_56
          refine ps_st (S' := (64, [(3, .int ((nI k) + 1)), (0, .ref m0), (1, .int (nI s)), (2, .int (nI l.length))], [], M)) rfl rfl rfl ?_
          rw [nI_add1 (p := k) (k := 1) (x := 1) rfl (by omega)]
          show pl _ _ _ (_, [(3, .int (nI (k + 1))), (0, .ref m0), (1, .int (nI s)), (2, .int (nI l.length))], [], M) _
          refine ps_st (S' := (65, [(3, .int (nI (k + 1))), (0, .ref m0), (1, .int (nI s)), (2, .int (nI l.length))], [.int (nI (k + 1))], M)) rfl rfl rfl ?_
          refine ps_st (S' := (66, [(3, .int (nI (k + 1))), (0, .ref m0), (1, .int (nI s)), (2, .int (nI l.length))], [.int 1, .int (nI (k + 1))], M)) rfl rfl rfl ?_
          refine ps_st (S' := (67, [(3, .int (nI (k + 1))), (0, .ref m0), (1, .int (nI s)), (2, .int (nI l.length))], [.int ((nI (k + 1)) + 1)], M)) rfl rfl rfl ?_
          rw [nI_add1 (p := k + 1) (k := 1) (x := 1) rfl (by omega)]
          show pl _ _ _ (_, [(3, .int (nI (k + 1))), (0, .ref m0), (1, .int (nI s)), (2, .int (nI l.length))], [.int (nI (k + 2))], M) _
          refine ps_st (S' := (68, [(3, .int (nI (k + 1))), (0, .ref m0), (1, .int (nI s)), (2, .int (nI l.length))], [.int (nI l.length), .int (nI (k + 2))], M)) rfl rfl rfl ?_
          refine ps_if2 (S1 := (82, [(0, .ref m0), (1, .int (nI s)), (2, .int (nI l.length)), (3, .int (nI (k + 1)))], [], M)) (S2 := (71, [(3, .int (nI (k + 1))), (0, .ref m0), (1, .int (nI s)), (2, .int (nI l.length))], [], M)) rfl rfl rfl (fun c_68 => ?_) (fun c_68 => ?_)
          · have c_68 : ¬ (nI (k + 2)) = (nI l.length) := of_decide_eq_true c_68
            have n_68 : ¬ (k + 2 = l.length) := fun h9 => c_68 ((eq_nI (p := k + 2) (n := l.length) (by omega) (by omega)).mpr h9)
            refine ps_st (S' := (83, [(0, .ref m0), (1, .int (nI s)), (2, .int (nI l.length)), (3, .int (nI (k + 1)))], [.ref m0], M)) rfl rfl rfl ?_
            refine ps_st (S' := (84, [(0, .ref m0), (1, .int (nI s)), (2, .int (nI l.length)), (3, .int (nI (k + 1)))], [.int (nI s), .ref m0], M)) rfl rfl rfl ?_
            refine ps_st (S' := (85, [(0, .ref m0), (1, .int (nI s)), (2, .int (nI l.length)), (3, .int (nI (k + 1)))], [.int (nI (k + 1)), .int (nI s), .ref m0], M)) rfl rfl rfl ?_
            refine pl_call (a := [.ref m0, .int (nI s), .int (nI (k + 1))]) (rest := []) rfl rfl rfl (rd_fieldText (tx := tx) (cN := cN) (A := A) (s := s) (l := l) (a := (k + 1)) hR hY (hs) (by omega)) (fun v1 M2 q3 => ?_)
            rcases q3 with q3 | q3
            · skip
              obtain ⟨q85_s, rfl, rfl⟩ := q3
              show pl _ _ _ (88, [(0, .ref m0), (1, .int (nI s)), (2, .int (nI l.length)), (3, .int (nI (k + 1)))], [.int (-1)], M) _
              refine ps_st (S' := (89, [(0, .ref m0), (1, .int (nI s)), (2, .int (nI l.length)), (3, .int (nI (k + 1)))], [.int (nI l.length), .int (-1)], M)) rfl rfl rfl ?_
              refine ps_if2 (S1 := (94, [(0, .ref m0), (1, .int (nI s))], [], M)) (S2 := (92, [(0, .ref m0), (1, .int (nI s)), (2, .int (nI l.length)), (3, .int (nI (k + 1)))], [], M)) rfl rfl rfl (fun c_89 => ?_) (fun c_89 => ?_)
              · exact absurd (of_decide_eq_true c_89) (m1_ne (by omega))
              refine ps_st (S' := (93, [(0, .ref m0), (1, .int (nI s)), (2, .int (nI l.length)), (3, .int (nI (k + 1)))], [.int 0], M)) rfl rfl rfl ?_
              exact ps_ret rfl rfl (⟨congrArg (fun x => some (Value.int (nI x))) (show 0 = mthN l from by
                  rw [mth_pl (k := k) (W := w) h40.1 h40.2 (by rw [← hp, s_pl_0 (by omega)])]
                  by_cases h8 : l.length ≤ k + 1 ∨ 255 < w
                  · rw [if_pos h8]
                  · rw [if_neg h8, if_neg (fun h => h.elim (by omega) (by rw [q85_s]; exact fun h9 => by cases h9))]), rfl⟩)
            · skip
              obtain ⟨x4, q85_s, q85_l, rfl, rfl⟩ := q3
              show pl _ _ _ (88, [(0, .ref m0), (1, .int (nI s)), (2, .int (nI l.length)), (3, .int (nI (k + 1)))], [.int (nI x4)], M) _
              refine ps_st (S' := (89, [(0, .ref m0), (1, .int (nI s)), (2, .int (nI l.length)), (3, .int (nI (k + 1)))], [.int (nI l.length), .int (nI x4)], M)) rfl rfl rfl ?_
              refine ps_if2 (S1 := (94, [(0, .ref m0), (1, .int (nI s))], [], M)) (S2 := (92, [(0, .ref m0), (1, .int (nI s)), (2, .int (nI l.length)), (3, .int (nI (k + 1)))], [], M)) rfl rfl rfl (fun c_89 => ?_) (fun c_89 => ?_)
              · have c_89 : (nI x4) = (nI l.length) := of_decide_eq_true c_89
                have n_89 : x4 = l.length := (eq_nI (p := x4) (n := l.length) (by omega) (by omega)).mp c_89
                refine ps_st (S' := (95, [(0, .ref m0), (1, .int (nI s))], [.ref m0], M)) rfl rfl rfl ?_
                refine ps_st (S' := (96, [(0, .ref m0), (1, .int (nI s))], [.int (nI s), .ref m0], M)) rfl rfl rfl ?_
                refine pl_call (a := [.ref m0, .int (nI s)]) (rest := []) rfl rfl rfl (rd_places0 (tx := tx) (cN := cN) (A := A) (s := s) (l := l) (k0 := k) (W := w) hR hY (hs) (by rw [← hp, s_pl_0 (by omega)]) (by omega)) (fun v5 M6 q7 => ?_)
                obtain ⟨rfl, rfl⟩ := q7
                show pl _ _ _ (99, [(0, .ref m0), (1, .int (nI s))], [.int (nI (w))], M) _
                refine ps_st (S' := (102, [(0, .ref m0), (1, .int (nI s))], [.int 255, .int (nI (w))], M)) rfl rfl rfl ?_
                refine ps_if2 (S1 := (109, [(0, .ref m0), (1, .int (nI s))], [], M)) (S2 := (105, [(0, .ref m0), (1, .int (nI s))], [], M)) rfl rfl rfl (fun c_102 => ?_) (fun c_102 => ?_)
                · have c_102 : 255 < (nI (w)) := of_decide_eq_true c_102
                  have n_102 : 255 < w := (lt_nI (p := 255) (n := w) (by decide) (by omega)).mp c_102
                  refine ps_st (S' := (110, [], [.int 0], M)) rfl rfl rfl ?_
                  exact ps_ret rfl rfl (⟨congrArg (fun x => some (Value.int (nI x))) (show 0 = mthN l from by
                      rw [mth_pl (k := k) (W := w) h40.1 h40.2 (by rw [← hp, s_pl_0 (by omega)])]
                      rw [if_pos (by omega)]), rfl⟩)
                · have c_102 : ¬ (255 < (nI (w))) := of_decide_eq_false c_102
                  have n_102 : ¬ (255 < w) := fun h9 => c_102 ((lt_nI (p := 255) (n := w) (by decide) (by omega)).mpr h9)
                  refine ps_st (S' := (106, [(0, .ref m0), (1, .int (nI s))], [.int 1], M)) rfl rfl rfl ?_
                  refine ps_st (S' := (110, [], [.int 1], M)) rfl rfl rfl ?_
                  exact ps_ret rfl rfl (⟨congrArg (fun x => some (Value.int (nI x))) (show 1 = mthN l from by
                      rw [mth_pl (k := k) (W := w) h40.1 h40.2 (by rw [← hp, s_pl_0 (by omega)])]
                      rw [if_neg (by omega), if_pos (Or.inr (by rw [q85_s, n_89]))]), rfl⟩)
              · have c_89 : ¬ ((nI x4) = (nI l.length)) := of_decide_eq_false c_89
                have n_89 : ¬ (x4 = l.length) := fun h9 => c_89 ((eq_nI (p := x4) (n := l.length) (by omega) (by omega)).mpr h9)
                refine ps_st (S' := (93, [(0, .ref m0), (1, .int (nI s)), (2, .int (nI l.length)), (3, .int (nI (k + 1)))], [.int 0], M)) rfl rfl rfl ?_
                exact ps_ret rfl rfl (⟨congrArg (fun x => some (Value.int (nI x))) (show 0 = mthN l from by
                    rw [mth_pl (k := k) (W := w) h40.1 h40.2 (by rw [← hp, s_pl_0 (by omega)])]
                    by_cases h8 : l.length ≤ k + 1 ∨ 255 < w
                    · rw [if_pos h8]
                    · rw [if_neg h8, if_neg (fun h => h.elim (by omega) (by rw [q85_s]; exact fun h9 => n_89 (Option.some.inj h9)))]), rfl⟩)
          · have c_68 : ¬ (¬ (nI (k + 2)) = (nI l.length)) := of_decide_eq_false c_68
            have n_68 : k + 2 = l.length := (eq_nI (p := k + 2) (n := l.length) (by omega) (by omega)).mp (Decidable.not_not.mp c_68)
            refine ps_st (S' := (72, [(3, .int (nI (k + 1))), (0, .ref m0), (1, .int (nI s)), (2, .int (nI l.length))], [.ref m0], M)) rfl rfl rfl ?_
            refine ps_st (S' := (73, [(3, .int (nI (k + 1))), (0, .ref m0), (1, .int (nI s)), (2, .int (nI l.length))], [.int (nI s), .ref m0], M)) rfl rfl rfl ?_
            refine ps_st (S' := (74, [(3, .int (nI (k + 1))), (0, .ref m0), (1, .int (nI s)), (2, .int (nI l.length))], [.int (nI (k + 1)), .int (nI s), .ref m0], M)) rfl rfl rfl ?_
            refine pl_call (a := [.ref m0, .int (nI s), .int (nI (k + 1))]) (rest := []) rfl rfl rfl (rd_at (tx := tx) (cN := cN) (A := A) (s := s) (l := l) (k := (k + 1)) hR hY (hs) (by omega)) (fun v8 M9 q10 => ?_)
            obtain ⟨rfl, rfl⟩ := q10
            show pl _ _ _ (77, [(3, .int (nI (k + 1))), (0, .ref m0), (1, .int (nI s)), (2, .int (nI l.length))], [.int (nI (l.getD (k + 1) 0))], M) _
            have hc_74 := hY.ch hs (k := k + 1) (by omega)
            refine ps_st (S' := (79, [(3, .int (nI (k + 1))), (0, .ref m0), (1, .int (nI s)), (2, .int (nI l.length))], [.int 86, .int (nI (l.getD (k + 1) 0))], M)) rfl rfl rfl ?_
            refine ps_if2 (S1 := (94, [(0, .ref m0), (1, .int (nI s))], [], M)) (S2 := (82, [(0, .ref m0), (1, .int (nI s)), (2, .int (nI l.length)), (3, .int (nI (k + 1)))], [], M)) rfl rfl rfl (fun c_79 => ?_) (fun c_79 => ?_)
            · have c_79 : (nI (l.getD (k + 1) 0)) = 86 := of_decide_eq_true c_79
              have n_79 : l.getD (k + 1) 0 = 86 := (eq_nI (p := l.getD (k + 1) 0) (n := 86) (by omega) (by decide)).mp c_79
              refine ps_st (S' := (95, [(0, .ref m0), (1, .int (nI s))], [.ref m0], M)) rfl rfl rfl ?_
              refine ps_st (S' := (96, [(0, .ref m0), (1, .int (nI s))], [.int (nI s), .ref m0], M)) rfl rfl rfl ?_
              refine pl_call (a := [.ref m0, .int (nI s)]) (rest := []) rfl rfl rfl (rd_places0 (tx := tx) (cN := cN) (A := A) (s := s) (l := l) (k0 := k) (W := w) hR hY (hs) (by rw [← hp, s_pl_0 (by omega)]) (by omega)) (fun v11 M12 q13 => ?_)
              obtain ⟨rfl, rfl⟩ := q13
              show pl _ _ _ (99, [(0, .ref m0), (1, .int (nI s))], [.int (nI (w))], M) _
              refine ps_st (S' := (102, [(0, .ref m0), (1, .int (nI s))], [.int 255, .int (nI (w))], M)) rfl rfl rfl ?_
              refine ps_if2 (S1 := (109, [(0, .ref m0), (1, .int (nI s))], [], M)) (S2 := (105, [(0, .ref m0), (1, .int (nI s))], [], M)) rfl rfl rfl (fun c_102 => ?_) (fun c_102 => ?_)
              · have c_102 : 255 < (nI (w)) := of_decide_eq_true c_102
                have n_102 : 255 < w := (lt_nI (p := 255) (n := w) (by decide) (by omega)).mp c_102
                refine ps_st (S' := (110, [], [.int 0], M)) rfl rfl rfl ?_
                exact ps_ret rfl rfl (⟨congrArg (fun x => some (Value.int (nI x))) (show 0 = mthN l from by
                    rw [mth_pl (k := k) (W := w) h40.1 h40.2 (by rw [← hp, s_pl_0 (by omega)])]
                    rw [if_pos (by omega)]), rfl⟩)
              · have c_102 : ¬ (255 < (nI (w))) := of_decide_eq_false c_102
                have n_102 : ¬ (255 < w) := fun h9 => c_102 ((lt_nI (p := 255) (n := w) (by decide) (by omega)).mpr h9)
                refine ps_st (S' := (106, [(0, .ref m0), (1, .int (nI s))], [.int 1], M)) rfl rfl rfl ?_
                refine ps_st (S' := (110, [], [.int 1], M)) rfl rfl rfl ?_
                exact ps_ret rfl rfl (⟨congrArg (fun x => some (Value.int (nI x))) (show 1 = mthN l from by
                    rw [mth_pl (k := k) (W := w) h40.1 h40.2 (by rw [← hp, s_pl_0 (by omega)])]
                    rw [if_neg (by omega), if_pos (Or.inl (by omega))]), rfl⟩)
            · have c_79 : ¬ ((nI (l.getD (k + 1) 0)) = 86) := of_decide_eq_false c_79
              have n_79 : ¬ (l.getD (k + 1) 0 = 86) := fun h9 => c_79 ((eq_nI (p := l.getD (k + 1) 0) (n := 86) (by omega) (by decide)).mpr h9)
              refine ps_st (S' := (83, [(0, .ref m0), (1, .int (nI s)), (2, .int (nI l.length)), (3, .int (nI (k + 1)))], [.ref m0], M)) rfl rfl rfl ?_
              refine ps_st (S' := (84, [(0, .ref m0), (1, .int (nI s)), (2, .int (nI l.length)), (3, .int (nI (k + 1)))], [.int (nI s), .ref m0], M)) rfl rfl rfl ?_
              refine ps_st (S' := (85, [(0, .ref m0), (1, .int (nI s)), (2, .int (nI l.length)), (3, .int (nI (k + 1)))], [.int (nI (k + 1)), .int (nI s), .ref m0], M)) rfl rfl rfl ?_
              refine pl_call (a := [.ref m0, .int (nI s), .int (nI (k + 1))]) (rest := []) rfl rfl rfl (rd_fieldText (tx := tx) (cN := cN) (A := A) (s := s) (l := l) (a := (k + 1)) hR hY (hs) (by omega)) (fun v14 M15 q16 => ?_)
              rcases q16 with q16 | q16
              · skip
                obtain ⟨q85_s, rfl, rfl⟩ := q16
                show pl _ _ _ (88, [(0, .ref m0), (1, .int (nI s)), (2, .int (nI l.length)), (3, .int (nI (k + 1)))], [.int (-1)], M) _
                refine ps_st (S' := (89, [(0, .ref m0), (1, .int (nI s)), (2, .int (nI l.length)), (3, .int (nI (k + 1)))], [.int (nI l.length), .int (-1)], M)) rfl rfl rfl ?_
                refine ps_if2 (S1 := (94, [(0, .ref m0), (1, .int (nI s))], [], M)) (S2 := (92, [(0, .ref m0), (1, .int (nI s)), (2, .int (nI l.length)), (3, .int (nI (k + 1)))], [], M)) rfl rfl rfl (fun c_89 => ?_) (fun c_89 => ?_)
                · exact absurd (of_decide_eq_true c_89) (m1_ne (by omega))
                refine ps_st (S' := (93, [(0, .ref m0), (1, .int (nI s)), (2, .int (nI l.length)), (3, .int (nI (k + 1)))], [.int 0], M)) rfl rfl rfl ?_
                exact ps_ret rfl rfl (⟨congrArg (fun x => some (Value.int (nI x))) (show 0 = mthN l from by
                    rw [mth_pl (k := k) (W := w) h40.1 h40.2 (by rw [← hp, s_pl_0 (by omega)])]
                    by_cases h8 : l.length ≤ k + 1 ∨ 255 < w
                    · rw [if_pos h8]
                    · rw [if_neg h8, if_neg (fun h => h.elim (by omega) (by rw [q85_s]; exact fun h9 => by cases h9))]), rfl⟩)
              · skip
                obtain ⟨x17, q85_s, q85_l, rfl, rfl⟩ := q16
                show pl _ _ _ (88, [(0, .ref m0), (1, .int (nI s)), (2, .int (nI l.length)), (3, .int (nI (k + 1)))], [.int (nI x17)], M) _
                refine ps_st (S' := (89, [(0, .ref m0), (1, .int (nI s)), (2, .int (nI l.length)), (3, .int (nI (k + 1)))], [.int (nI l.length), .int (nI x17)], M)) rfl rfl rfl ?_
                refine ps_if2 (S1 := (94, [(0, .ref m0), (1, .int (nI s))], [], M)) (S2 := (92, [(0, .ref m0), (1, .int (nI s)), (2, .int (nI l.length)), (3, .int (nI (k + 1)))], [], M)) rfl rfl rfl (fun c_89 => ?_) (fun c_89 => ?_)
                · have c_89 : (nI x17) = (nI l.length) := of_decide_eq_true c_89
                  have n_89 : x17 = l.length := (eq_nI (p := x17) (n := l.length) (by omega) (by omega)).mp c_89
                  refine ps_st (S' := (95, [(0, .ref m0), (1, .int (nI s))], [.ref m0], M)) rfl rfl rfl ?_
                  refine ps_st (S' := (96, [(0, .ref m0), (1, .int (nI s))], [.int (nI s), .ref m0], M)) rfl rfl rfl ?_
                  refine pl_call (a := [.ref m0, .int (nI s)]) (rest := []) rfl rfl rfl (rd_places0 (tx := tx) (cN := cN) (A := A) (s := s) (l := l) (k0 := k) (W := w) hR hY (hs) (by rw [← hp, s_pl_0 (by omega)]) (by omega)) (fun v18 M19 q20 => ?_)
                  obtain ⟨rfl, rfl⟩ := q20
                  show pl _ _ _ (99, [(0, .ref m0), (1, .int (nI s))], [.int (nI (w))], M) _
                  refine ps_st (S' := (102, [(0, .ref m0), (1, .int (nI s))], [.int 255, .int (nI (w))], M)) rfl rfl rfl ?_
                  refine ps_if2 (S1 := (109, [(0, .ref m0), (1, .int (nI s))], [], M)) (S2 := (105, [(0, .ref m0), (1, .int (nI s))], [], M)) rfl rfl rfl (fun c_102 => ?_) (fun c_102 => ?_)
                  · have c_102 : 255 < (nI (w)) := of_decide_eq_true c_102
                    have n_102 : 255 < w := (lt_nI (p := 255) (n := w) (by decide) (by omega)).mp c_102
                    refine ps_st (S' := (110, [], [.int 0], M)) rfl rfl rfl ?_
                    exact ps_ret rfl rfl (⟨congrArg (fun x => some (Value.int (nI x))) (show 0 = mthN l from by
                        rw [mth_pl (k := k) (W := w) h40.1 h40.2 (by rw [← hp, s_pl_0 (by omega)])]
                        rw [if_pos (by omega)]), rfl⟩)
                  · have c_102 : ¬ (255 < (nI (w))) := of_decide_eq_false c_102
                    have n_102 : ¬ (255 < w) := fun h9 => c_102 ((lt_nI (p := 255) (n := w) (by decide) (by omega)).mpr h9)
                    refine ps_st (S' := (106, [(0, .ref m0), (1, .int (nI s))], [.int 1], M)) rfl rfl rfl ?_
                    refine ps_st (S' := (110, [], [.int 1], M)) rfl rfl rfl ?_
                    exact ps_ret rfl rfl (⟨congrArg (fun x => some (Value.int (nI x))) (show 1 = mthN l from by
                        rw [mth_pl (k := k) (W := w) h40.1 h40.2 (by rw [← hp, s_pl_0 (by omega)])]
                        rw [if_neg (by omega), if_pos (Or.inr (by rw [q85_s, n_89]))]), rfl⟩)
                · have c_89 : ¬ ((nI x17) = (nI l.length)) := of_decide_eq_false c_89
                  have n_89 : ¬ (x17 = l.length) := fun h9 => c_89 ((eq_nI (p := x17) (n := l.length) (by omega) (by omega)).mpr h9)
                  refine ps_st (S' := (93, [(0, .ref m0), (1, .int (nI s)), (2, .int (nI l.length)), (3, .int (nI (k + 1)))], [.int 0], M)) rfl rfl rfl ?_
                  exact ps_ret rfl rfl (⟨congrArg (fun x => some (Value.int (nI x))) (show 0 = mthN l from by
                      rw [mth_pl (k := k) (W := w) h40.1 h40.2 (by rw [← hp, s_pl_0 (by omega)])]
                      by_cases h8 : l.length ≤ k + 1 ∨ 255 < w
                      · rw [if_pos h8]
                      · rw [if_neg h8, if_neg (fun h => h.elim (by omega) (by rw [q85_s]; exact fun h9 => n_89 (Option.some.inj h9)))]), rfl⟩)
        · have c_56 : ¬ ((nI k) < (nI l.length)) := of_decide_eq_false c_56
          have n_56 : ¬ (k < l.length) := fun h9 => c_56 ((lt_nI (p := k) (n := l.length) (by omega) (by omega)).mpr h9)
          refine ps_st (S' := (60, [(0, .ref m0), (1, .int (nI s)), (2, .int (nI l.length)), (3, .int (nI k))], [.int 0], M)) rfl rfl rfl ?_
          exact ps_ret rfl rfl (⟨congrArg (fun x => some (Value.int (nI x))) (show 0 = mthN l from by
              rw [mth_pl (k := k) (W := w) h40.1 h40.2 (by rw [← hp, s_pl_0 (by omega)])]
              rw [if_pos (by omega)]), rfl⟩)
      · have c_27 : ¬ ((nI l.length) ≤ (nI k)) := of_decide_eq_false c_27
        have n_27 : ¬ (l.length ≤ k) := fun h9 => c_27 ((le_nI (p := l.length) (n := k) (by omega) (by omega)).mpr h9)
        refine ps_st (S' := (31, [(0, .ref m0), (1, .int (nI s)), (2, .int (nI l.length)), (3, .int (nI k))], [.ref m0], M)) rfl rfl rfl ?_
        refine ps_st (S' := (32, [(0, .ref m0), (1, .int (nI s)), (2, .int (nI l.length)), (3, .int (nI k))], [.int (nI s), .ref m0], M)) rfl rfl rfl ?_
        refine ps_st (S' := (33, [(0, .ref m0), (1, .int (nI s)), (2, .int (nI l.length)), (3, .int (nI k))], [.int (nI k), .int (nI s), .ref m0], M)) rfl rfl rfl ?_
        refine pl_call (a := [.ref m0, .int (nI s), .int (nI k)]) (rest := []) rfl rfl rfl (rd_at (tx := tx) (cN := cN) (A := A) (s := s) (l := l) (k := k) hR hY (hs) (by omega)) (fun v21 M22 q23 => ?_)
        obtain ⟨rfl, rfl⟩ := q23
        show pl _ _ _ (36, [(0, .ref m0), (1, .int (nI s)), (2, .int (nI l.length)), (3, .int (nI k))], [.int (nI (l.getD k 0))], M) _
        have hc_33 := hY.ch hs (k := k) (by omega)
        refine ps_st (S' := (38, [(0, .ref m0), (1, .int (nI s)), (2, .int (nI l.length)), (3, .int (nI k))], [.int 41, .int (nI (l.getD k 0))], M)) rfl rfl rfl ?_
        refine ps_if2 (S1 := (54, [(0, .ref m0), (1, .int (nI s)), (2, .int (nI l.length)), (3, .int (nI k))], [], M)) (S2 := (41, [(0, .ref m0), (1, .int (nI s)), (2, .int (nI l.length)), (3, .int (nI k))], [], M)) rfl rfl rfl (fun c_38 => ?_) (fun c_38 => ?_)
        · have c_38 : (nI (l.getD k 0)) = 41 := of_decide_eq_true c_38
          have n_38 : l.getD k 0 = 41 := (eq_nI (p := l.getD k 0) (n := 41) (by omega) (by decide)).mp c_38
          refine ps_st (S' := (55, [(0, .ref m0), (1, .int (nI s)), (2, .int (nI l.length)), (3, .int (nI k))], [.int (nI k)], M)) rfl rfl rfl ?_
          refine ps_st (S' := (56, [(0, .ref m0), (1, .int (nI s)), (2, .int (nI l.length)), (3, .int (nI k))], [.int (nI l.length), .int (nI k)], M)) rfl rfl rfl ?_
          refine ps_if2 (S1 := (61, [(0, .ref m0), (1, .int (nI s)), (2, .int (nI l.length)), (3, .int (nI k))], [], M)) (S2 := (59, [(0, .ref m0), (1, .int (nI s)), (2, .int (nI l.length)), (3, .int (nI k))], [], M)) rfl rfl rfl (fun c_56 => ?_) (fun c_56 => ?_)
          · have c_56 : (nI k) < (nI l.length) := of_decide_eq_true c_56
            have n_56 : k < l.length := (lt_nI (p := k) (n := l.length) (by omega) (by omega)).mp c_56
            refine ps_st (S' := (64, [(3, .int ((nI k) + 1)), (0, .ref m0), (1, .int (nI s)), (2, .int (nI l.length))], [], M)) rfl rfl rfl ?_
            rw [nI_add1 (p := k) (k := 1) (x := 1) rfl (by omega)]
            show pl _ _ _ (_, [(3, .int (nI (k + 1))), (0, .ref m0), (1, .int (nI s)), (2, .int (nI l.length))], [], M) _
            refine ps_st (S' := (65, [(3, .int (nI (k + 1))), (0, .ref m0), (1, .int (nI s)), (2, .int (nI l.length))], [.int (nI (k + 1))], M)) rfl rfl rfl ?_
            refine ps_st (S' := (66, [(3, .int (nI (k + 1))), (0, .ref m0), (1, .int (nI s)), (2, .int (nI l.length))], [.int 1, .int (nI (k + 1))], M)) rfl rfl rfl ?_
            refine ps_st (S' := (67, [(3, .int (nI (k + 1))), (0, .ref m0), (1, .int (nI s)), (2, .int (nI l.length))], [.int ((nI (k + 1)) + 1)], M)) rfl rfl rfl ?_
            rw [nI_add1 (p := k + 1) (k := 1) (x := 1) rfl (by omega)]
            show pl _ _ _ (_, [(3, .int (nI (k + 1))), (0, .ref m0), (1, .int (nI s)), (2, .int (nI l.length))], [.int (nI (k + 2))], M) _
            refine ps_st (S' := (68, [(3, .int (nI (k + 1))), (0, .ref m0), (1, .int (nI s)), (2, .int (nI l.length))], [.int (nI l.length), .int (nI (k + 2))], M)) rfl rfl rfl ?_
            refine ps_if2 (S1 := (82, [(0, .ref m0), (1, .int (nI s)), (2, .int (nI l.length)), (3, .int (nI (k + 1)))], [], M)) (S2 := (71, [(3, .int (nI (k + 1))), (0, .ref m0), (1, .int (nI s)), (2, .int (nI l.length))], [], M)) rfl rfl rfl (fun c_68 => ?_) (fun c_68 => ?_)
            · have c_68 : ¬ (nI (k + 2)) = (nI l.length) := of_decide_eq_true c_68
              have n_68 : ¬ (k + 2 = l.length) := fun h9 => c_68 ((eq_nI (p := k + 2) (n := l.length) (by omega) (by omega)).mpr h9)
              refine ps_st (S' := (83, [(0, .ref m0), (1, .int (nI s)), (2, .int (nI l.length)), (3, .int (nI (k + 1)))], [.ref m0], M)) rfl rfl rfl ?_
              refine ps_st (S' := (84, [(0, .ref m0), (1, .int (nI s)), (2, .int (nI l.length)), (3, .int (nI (k + 1)))], [.int (nI s), .ref m0], M)) rfl rfl rfl ?_
              refine ps_st (S' := (85, [(0, .ref m0), (1, .int (nI s)), (2, .int (nI l.length)), (3, .int (nI (k + 1)))], [.int (nI (k + 1)), .int (nI s), .ref m0], M)) rfl rfl rfl ?_
              refine pl_call (a := [.ref m0, .int (nI s), .int (nI (k + 1))]) (rest := []) rfl rfl rfl (rd_fieldText (tx := tx) (cN := cN) (A := A) (s := s) (l := l) (a := (k + 1)) hR hY (hs) (by omega)) (fun v24 M25 q26 => ?_)
              rcases q26 with q26 | q26
              · skip
                obtain ⟨q85_s, rfl, rfl⟩ := q26
                show pl _ _ _ (88, [(0, .ref m0), (1, .int (nI s)), (2, .int (nI l.length)), (3, .int (nI (k + 1)))], [.int (-1)], M) _
                refine ps_st (S' := (89, [(0, .ref m0), (1, .int (nI s)), (2, .int (nI l.length)), (3, .int (nI (k + 1)))], [.int (nI l.length), .int (-1)], M)) rfl rfl rfl ?_
                refine ps_if2 (S1 := (94, [(0, .ref m0), (1, .int (nI s))], [], M)) (S2 := (92, [(0, .ref m0), (1, .int (nI s)), (2, .int (nI l.length)), (3, .int (nI (k + 1)))], [], M)) rfl rfl rfl (fun c_89 => ?_) (fun c_89 => ?_)
                · exact absurd (of_decide_eq_true c_89) (m1_ne (by omega))
                refine ps_st (S' := (93, [(0, .ref m0), (1, .int (nI s)), (2, .int (nI l.length)), (3, .int (nI (k + 1)))], [.int 0], M)) rfl rfl rfl ?_
                exact ps_ret rfl rfl (⟨congrArg (fun x => some (Value.int (nI x))) (show 0 = mthN l from by
                    rw [mth_pl (k := k) (W := w) h40.1 h40.2 (by rw [← hp, s_pl_0 (by omega)])]
                    by_cases h8 : l.length ≤ k + 1 ∨ 255 < w
                    · rw [if_pos h8]
                    · rw [if_neg h8, if_neg (fun h => h.elim (by omega) (by rw [q85_s]; exact fun h9 => by cases h9))]), rfl⟩)
              · skip
                obtain ⟨x27, q85_s, q85_l, rfl, rfl⟩ := q26
                show pl _ _ _ (88, [(0, .ref m0), (1, .int (nI s)), (2, .int (nI l.length)), (3, .int (nI (k + 1)))], [.int (nI x27)], M) _
                refine ps_st (S' := (89, [(0, .ref m0), (1, .int (nI s)), (2, .int (nI l.length)), (3, .int (nI (k + 1)))], [.int (nI l.length), .int (nI x27)], M)) rfl rfl rfl ?_
                refine ps_if2 (S1 := (94, [(0, .ref m0), (1, .int (nI s))], [], M)) (S2 := (92, [(0, .ref m0), (1, .int (nI s)), (2, .int (nI l.length)), (3, .int (nI (k + 1)))], [], M)) rfl rfl rfl (fun c_89 => ?_) (fun c_89 => ?_)
                · have c_89 : (nI x27) = (nI l.length) := of_decide_eq_true c_89
                  have n_89 : x27 = l.length := (eq_nI (p := x27) (n := l.length) (by omega) (by omega)).mp c_89
                  refine ps_st (S' := (95, [(0, .ref m0), (1, .int (nI s))], [.ref m0], M)) rfl rfl rfl ?_
                  refine ps_st (S' := (96, [(0, .ref m0), (1, .int (nI s))], [.int (nI s), .ref m0], M)) rfl rfl rfl ?_
                  refine pl_call (a := [.ref m0, .int (nI s)]) (rest := []) rfl rfl rfl (rd_places0 (tx := tx) (cN := cN) (A := A) (s := s) (l := l) (k0 := k) (W := w) hR hY (hs) (by rw [← hp, s_pl_0 (by omega)]) (by omega)) (fun v28 M29 q30 => ?_)
                  obtain ⟨rfl, rfl⟩ := q30
                  show pl _ _ _ (99, [(0, .ref m0), (1, .int (nI s))], [.int (nI (w))], M) _
                  refine ps_st (S' := (102, [(0, .ref m0), (1, .int (nI s))], [.int 255, .int (nI (w))], M)) rfl rfl rfl ?_
                  refine ps_if2 (S1 := (109, [(0, .ref m0), (1, .int (nI s))], [], M)) (S2 := (105, [(0, .ref m0), (1, .int (nI s))], [], M)) rfl rfl rfl (fun c_102 => ?_) (fun c_102 => ?_)
                  · have c_102 : 255 < (nI (w)) := of_decide_eq_true c_102
                    have n_102 : 255 < w := (lt_nI (p := 255) (n := w) (by decide) (by omega)).mp c_102
                    refine ps_st (S' := (110, [], [.int 0], M)) rfl rfl rfl ?_
                    exact ps_ret rfl rfl (⟨congrArg (fun x => some (Value.int (nI x))) (show 0 = mthN l from by
                        rw [mth_pl (k := k) (W := w) h40.1 h40.2 (by rw [← hp, s_pl_0 (by omega)])]
                        rw [if_pos (by omega)]), rfl⟩)
                  · have c_102 : ¬ (255 < (nI (w))) := of_decide_eq_false c_102
                    have n_102 : ¬ (255 < w) := fun h9 => c_102 ((lt_nI (p := 255) (n := w) (by decide) (by omega)).mpr h9)
                    refine ps_st (S' := (106, [(0, .ref m0), (1, .int (nI s))], [.int 1], M)) rfl rfl rfl ?_
                    refine ps_st (S' := (110, [], [.int 1], M)) rfl rfl rfl ?_
                    exact ps_ret rfl rfl (⟨congrArg (fun x => some (Value.int (nI x))) (show 1 = mthN l from by
                        rw [mth_pl (k := k) (W := w) h40.1 h40.2 (by rw [← hp, s_pl_0 (by omega)])]
                        rw [if_neg (by omega), if_pos (Or.inr (by rw [q85_s, n_89]))]), rfl⟩)
                · have c_89 : ¬ ((nI x27) = (nI l.length)) := of_decide_eq_false c_89
                  have n_89 : ¬ (x27 = l.length) := fun h9 => c_89 ((eq_nI (p := x27) (n := l.length) (by omega) (by omega)).mpr h9)
                  refine ps_st (S' := (93, [(0, .ref m0), (1, .int (nI s)), (2, .int (nI l.length)), (3, .int (nI (k + 1)))], [.int 0], M)) rfl rfl rfl ?_
                  exact ps_ret rfl rfl (⟨congrArg (fun x => some (Value.int (nI x))) (show 0 = mthN l from by
                      rw [mth_pl (k := k) (W := w) h40.1 h40.2 (by rw [← hp, s_pl_0 (by omega)])]
                      by_cases h8 : l.length ≤ k + 1 ∨ 255 < w
                      · rw [if_pos h8]
                      · rw [if_neg h8, if_neg (fun h => h.elim (by omega) (by rw [q85_s]; exact fun h9 => n_89 (Option.some.inj h9)))]), rfl⟩)
            · have c_68 : ¬ (¬ (nI (k + 2)) = (nI l.length)) := of_decide_eq_false c_68
              have n_68 : k + 2 = l.length := (eq_nI (p := k + 2) (n := l.length) (by omega) (by omega)).mp (Decidable.not_not.mp c_68)
              refine ps_st (S' := (72, [(3, .int (nI (k + 1))), (0, .ref m0), (1, .int (nI s)), (2, .int (nI l.length))], [.ref m0], M)) rfl rfl rfl ?_
              refine ps_st (S' := (73, [(3, .int (nI (k + 1))), (0, .ref m0), (1, .int (nI s)), (2, .int (nI l.length))], [.int (nI s), .ref m0], M)) rfl rfl rfl ?_
              refine ps_st (S' := (74, [(3, .int (nI (k + 1))), (0, .ref m0), (1, .int (nI s)), (2, .int (nI l.length))], [.int (nI (k + 1)), .int (nI s), .ref m0], M)) rfl rfl rfl ?_
              refine pl_call (a := [.ref m0, .int (nI s), .int (nI (k + 1))]) (rest := []) rfl rfl rfl (rd_at (tx := tx) (cN := cN) (A := A) (s := s) (l := l) (k := (k + 1)) hR hY (hs) (by omega)) (fun v31 M32 q33 => ?_)
              obtain ⟨rfl, rfl⟩ := q33
              show pl _ _ _ (77, [(3, .int (nI (k + 1))), (0, .ref m0), (1, .int (nI s)), (2, .int (nI l.length))], [.int (nI (l.getD (k + 1) 0))], M) _
              have hc_74 := hY.ch hs (k := k + 1) (by omega)
              refine ps_st (S' := (79, [(3, .int (nI (k + 1))), (0, .ref m0), (1, .int (nI s)), (2, .int (nI l.length))], [.int 86, .int (nI (l.getD (k + 1) 0))], M)) rfl rfl rfl ?_
              refine ps_if2 (S1 := (94, [(0, .ref m0), (1, .int (nI s))], [], M)) (S2 := (82, [(0, .ref m0), (1, .int (nI s)), (2, .int (nI l.length)), (3, .int (nI (k + 1)))], [], M)) rfl rfl rfl (fun c_79 => ?_) (fun c_79 => ?_)
              · have c_79 : (nI (l.getD (k + 1) 0)) = 86 := of_decide_eq_true c_79
                have n_79 : l.getD (k + 1) 0 = 86 := (eq_nI (p := l.getD (k + 1) 0) (n := 86) (by omega) (by decide)).mp c_79
                refine ps_st (S' := (95, [(0, .ref m0), (1, .int (nI s))], [.ref m0], M)) rfl rfl rfl ?_
                refine ps_st (S' := (96, [(0, .ref m0), (1, .int (nI s))], [.int (nI s), .ref m0], M)) rfl rfl rfl ?_
                refine pl_call (a := [.ref m0, .int (nI s)]) (rest := []) rfl rfl rfl (rd_places0 (tx := tx) (cN := cN) (A := A) (s := s) (l := l) (k0 := k) (W := w) hR hY (hs) (by rw [← hp, s_pl_0 (by omega)]) (by omega)) (fun v34 M35 q36 => ?_)
                obtain ⟨rfl, rfl⟩ := q36
                show pl _ _ _ (99, [(0, .ref m0), (1, .int (nI s))], [.int (nI (w))], M) _
                refine ps_st (S' := (102, [(0, .ref m0), (1, .int (nI s))], [.int 255, .int (nI (w))], M)) rfl rfl rfl ?_
                refine ps_if2 (S1 := (109, [(0, .ref m0), (1, .int (nI s))], [], M)) (S2 := (105, [(0, .ref m0), (1, .int (nI s))], [], M)) rfl rfl rfl (fun c_102 => ?_) (fun c_102 => ?_)
                · have c_102 : 255 < (nI (w)) := of_decide_eq_true c_102
                  have n_102 : 255 < w := (lt_nI (p := 255) (n := w) (by decide) (by omega)).mp c_102
                  refine ps_st (S' := (110, [], [.int 0], M)) rfl rfl rfl ?_
                  exact ps_ret rfl rfl (⟨congrArg (fun x => some (Value.int (nI x))) (show 0 = mthN l from by
                      rw [mth_pl (k := k) (W := w) h40.1 h40.2 (by rw [← hp, s_pl_0 (by omega)])]
                      rw [if_pos (by omega)]), rfl⟩)
                · have c_102 : ¬ (255 < (nI (w))) := of_decide_eq_false c_102
                  have n_102 : ¬ (255 < w) := fun h9 => c_102 ((lt_nI (p := 255) (n := w) (by decide) (by omega)).mpr h9)
                  refine ps_st (S' := (106, [(0, .ref m0), (1, .int (nI s))], [.int 1], M)) rfl rfl rfl ?_
                  refine ps_st (S' := (110, [], [.int 1], M)) rfl rfl rfl ?_
                  exact ps_ret rfl rfl (⟨congrArg (fun x => some (Value.int (nI x))) (show 1 = mthN l from by
                      rw [mth_pl (k := k) (W := w) h40.1 h40.2 (by rw [← hp, s_pl_0 (by omega)])]
                      rw [if_neg (by omega), if_pos (Or.inl (by omega))]), rfl⟩)
              · have c_79 : ¬ ((nI (l.getD (k + 1) 0)) = 86) := of_decide_eq_false c_79
                have n_79 : ¬ (l.getD (k + 1) 0 = 86) := fun h9 => c_79 ((eq_nI (p := l.getD (k + 1) 0) (n := 86) (by omega) (by decide)).mpr h9)
                refine ps_st (S' := (83, [(0, .ref m0), (1, .int (nI s)), (2, .int (nI l.length)), (3, .int (nI (k + 1)))], [.ref m0], M)) rfl rfl rfl ?_
                refine ps_st (S' := (84, [(0, .ref m0), (1, .int (nI s)), (2, .int (nI l.length)), (3, .int (nI (k + 1)))], [.int (nI s), .ref m0], M)) rfl rfl rfl ?_
                refine ps_st (S' := (85, [(0, .ref m0), (1, .int (nI s)), (2, .int (nI l.length)), (3, .int (nI (k + 1)))], [.int (nI (k + 1)), .int (nI s), .ref m0], M)) rfl rfl rfl ?_
                refine pl_call (a := [.ref m0, .int (nI s), .int (nI (k + 1))]) (rest := []) rfl rfl rfl (rd_fieldText (tx := tx) (cN := cN) (A := A) (s := s) (l := l) (a := (k + 1)) hR hY (hs) (by omega)) (fun v37 M38 q39 => ?_)
                rcases q39 with q39 | q39
                · skip
                  obtain ⟨q85_s, rfl, rfl⟩ := q39
                  show pl _ _ _ (88, [(0, .ref m0), (1, .int (nI s)), (2, .int (nI l.length)), (3, .int (nI (k + 1)))], [.int (-1)], M) _
                  refine ps_st (S' := (89, [(0, .ref m0), (1, .int (nI s)), (2, .int (nI l.length)), (3, .int (nI (k + 1)))], [.int (nI l.length), .int (-1)], M)) rfl rfl rfl ?_
                  refine ps_if2 (S1 := (94, [(0, .ref m0), (1, .int (nI s))], [], M)) (S2 := (92, [(0, .ref m0), (1, .int (nI s)), (2, .int (nI l.length)), (3, .int (nI (k + 1)))], [], M)) rfl rfl rfl (fun c_89 => ?_) (fun c_89 => ?_)
                  · exact absurd (of_decide_eq_true c_89) (m1_ne (by omega))
                  refine ps_st (S' := (93, [(0, .ref m0), (1, .int (nI s)), (2, .int (nI l.length)), (3, .int (nI (k + 1)))], [.int 0], M)) rfl rfl rfl ?_
                  exact ps_ret rfl rfl (⟨congrArg (fun x => some (Value.int (nI x))) (show 0 = mthN l from by
                      rw [mth_pl (k := k) (W := w) h40.1 h40.2 (by rw [← hp, s_pl_0 (by omega)])]
                      by_cases h8 : l.length ≤ k + 1 ∨ 255 < w
                      · rw [if_pos h8]
                      · rw [if_neg h8, if_neg (fun h => h.elim (by omega) (by rw [q85_s]; exact fun h9 => by cases h9))]), rfl⟩)
                · skip
                  obtain ⟨x40, q85_s, q85_l, rfl, rfl⟩ := q39
                  show pl _ _ _ (88, [(0, .ref m0), (1, .int (nI s)), (2, .int (nI l.length)), (3, .int (nI (k + 1)))], [.int (nI x40)], M) _
                  refine ps_st (S' := (89, [(0, .ref m0), (1, .int (nI s)), (2, .int (nI l.length)), (3, .int (nI (k + 1)))], [.int (nI l.length), .int (nI x40)], M)) rfl rfl rfl ?_
                  refine ps_if2 (S1 := (94, [(0, .ref m0), (1, .int (nI s))], [], M)) (S2 := (92, [(0, .ref m0), (1, .int (nI s)), (2, .int (nI l.length)), (3, .int (nI (k + 1)))], [], M)) rfl rfl rfl (fun c_89 => ?_) (fun c_89 => ?_)
                  · have c_89 : (nI x40) = (nI l.length) := of_decide_eq_true c_89
                    have n_89 : x40 = l.length := (eq_nI (p := x40) (n := l.length) (by omega) (by omega)).mp c_89
                    refine ps_st (S' := (95, [(0, .ref m0), (1, .int (nI s))], [.ref m0], M)) rfl rfl rfl ?_
                    refine ps_st (S' := (96, [(0, .ref m0), (1, .int (nI s))], [.int (nI s), .ref m0], M)) rfl rfl rfl ?_
                    refine pl_call (a := [.ref m0, .int (nI s)]) (rest := []) rfl rfl rfl (rd_places0 (tx := tx) (cN := cN) (A := A) (s := s) (l := l) (k0 := k) (W := w) hR hY (hs) (by rw [← hp, s_pl_0 (by omega)]) (by omega)) (fun v41 M42 q43 => ?_)
                    obtain ⟨rfl, rfl⟩ := q43
                    show pl _ _ _ (99, [(0, .ref m0), (1, .int (nI s))], [.int (nI (w))], M) _
                    refine ps_st (S' := (102, [(0, .ref m0), (1, .int (nI s))], [.int 255, .int (nI (w))], M)) rfl rfl rfl ?_
                    refine ps_if2 (S1 := (109, [(0, .ref m0), (1, .int (nI s))], [], M)) (S2 := (105, [(0, .ref m0), (1, .int (nI s))], [], M)) rfl rfl rfl (fun c_102 => ?_) (fun c_102 => ?_)
                    · have c_102 : 255 < (nI (w)) := of_decide_eq_true c_102
                      have n_102 : 255 < w := (lt_nI (p := 255) (n := w) (by decide) (by omega)).mp c_102
                      refine ps_st (S' := (110, [], [.int 0], M)) rfl rfl rfl ?_
                      exact ps_ret rfl rfl (⟨congrArg (fun x => some (Value.int (nI x))) (show 0 = mthN l from by
                          rw [mth_pl (k := k) (W := w) h40.1 h40.2 (by rw [← hp, s_pl_0 (by omega)])]
                          rw [if_pos (by omega)]), rfl⟩)
                    · have c_102 : ¬ (255 < (nI (w))) := of_decide_eq_false c_102
                      have n_102 : ¬ (255 < w) := fun h9 => c_102 ((lt_nI (p := 255) (n := w) (by decide) (by omega)).mpr h9)
                      refine ps_st (S' := (106, [(0, .ref m0), (1, .int (nI s))], [.int 1], M)) rfl rfl rfl ?_
                      refine ps_st (S' := (110, [], [.int 1], M)) rfl rfl rfl ?_
                      exact ps_ret rfl rfl (⟨congrArg (fun x => some (Value.int (nI x))) (show 1 = mthN l from by
                          rw [mth_pl (k := k) (W := w) h40.1 h40.2 (by rw [← hp, s_pl_0 (by omega)])]
                          rw [if_neg (by omega), if_pos (Or.inr (by rw [q85_s, n_89]))]), rfl⟩)
                  · have c_89 : ¬ ((nI x40) = (nI l.length)) := of_decide_eq_false c_89
                    have n_89 : ¬ (x40 = l.length) := fun h9 => c_89 ((eq_nI (p := x40) (n := l.length) (by omega) (by omega)).mpr h9)
                    refine ps_st (S' := (93, [(0, .ref m0), (1, .int (nI s)), (2, .int (nI l.length)), (3, .int (nI (k + 1)))], [.int 0], M)) rfl rfl rfl ?_
                    exact ps_ret rfl rfl (⟨congrArg (fun x => some (Value.int (nI x))) (show 0 = mthN l from by
                        rw [mth_pl (k := k) (W := w) h40.1 h40.2 (by rw [← hp, s_pl_0 (by omega)])]
                        by_cases h8 : l.length ≤ k + 1 ∨ 255 < w
                        · rw [if_pos h8]
                        · rw [if_neg h8, if_neg (fun h => h.elim (by omega) (by rw [q85_s]; exact fun h9 => n_89 (Option.some.inj h9)))]), rfl⟩)
          · have c_56 : ¬ ((nI k) < (nI l.length)) := of_decide_eq_false c_56
            have n_56 : ¬ (k < l.length) := fun h9 => c_56 ((lt_nI (p := k) (n := l.length) (by omega) (by omega)).mpr h9)
            refine ps_st (S' := (60, [(0, .ref m0), (1, .int (nI s)), (2, .int (nI l.length)), (3, .int (nI k))], [.int 0], M)) rfl rfl rfl ?_
            exact ps_ret rfl rfl (⟨congrArg (fun x => some (Value.int (nI x))) (show 0 = mthN l from by
                rw [mth_pl (k := k) (W := w) h40.1 h40.2 (by rw [← hp, s_pl_0 (by omega)])]
                rw [if_pos (by omega)]), rfl⟩)
        · have c_38 : ¬ ((nI (l.getD k 0)) = 41) := of_decide_eq_false c_38
          have n_38 : ¬ (l.getD k 0 = 41) := fun h9 => c_38 ((eq_nI (p := l.getD k 0) (n := 41) (by omega) (by decide)).mpr h9)
          refine ps_st (S' := (42, [(0, .ref m0), (1, .int (nI s)), (2, .int (nI l.length)), (3, .int (nI k))], [.ref m0], M)) rfl rfl rfl ?_
          refine ps_st (S' := (43, [(0, .ref m0), (1, .int (nI s)), (2, .int (nI l.length)), (3, .int (nI k))], [.int (nI s), .ref m0], M)) rfl rfl rfl ?_
          refine ps_st (S' := (44, [(0, .ref m0), (1, .int (nI s)), (2, .int (nI l.length)), (3, .int (nI k))], [.int (nI k), .int (nI s), .ref m0], M)) rfl rfl rfl ?_
          refine pl_call (a := [.ref m0, .int (nI s), .int (nI k)]) (rest := []) rfl rfl rfl (rd_fieldText (tx := tx) (cN := cN) (A := A) (s := s) (l := l) (a := k) hR hY (hs) (by omega)) (fun v44 M45 q46 => ?_)
          rcases q46 with q46 | q46
          · skip
            obtain ⟨q44_s, rfl, rfl⟩ := q46
            show pl _ _ _ (47, [(0, .ref m0), (1, .int (nI s)), (2, .int (nI l.length)), (3, .int (nI k))], [.int (-1)], M) _
            refine ps_st (S' := (48, [(3, .int (-1)), (0, .ref m0), (1, .int (nI s)), (2, .int (nI l.length))], [], M)) rfl rfl rfl ?_
            refine ps_st (S' := (49, [(3, .int (-1)), (0, .ref m0), (1, .int (nI s)), (2, .int (nI l.length))], [.int (-1)], M)) rfl rfl rfl ?_
            refine ps_if (S1 := (25, [(0, .ref m0), (1, .int (nI s)), (2, .int (nI l.length)), (3, .int (-1))], [], M)) (S2 := (52, [(3, .int (-1)), (0, .ref m0), (1, .int (nI s)), (2, .int (nI l.length))], [], M)) rfl rfl rfl (fun c_49 => ?_) (fun c_49 => ?_)
            · exact absurd (of_decide_eq_true c_49) (by decide)
            refine ps_st (S' := (53, [(3, .int (-1)), (0, .ref m0), (1, .int (nI s)), (2, .int (nI l.length))], [.int 0], M)) rfl rfl rfl ?_
            exact ps_ret rfl rfl (⟨congrArg (fun x => some (Value.int (nI x))) (show 0 = mthN l from (mth_nopl h40.1 h40.2 (by rw [← hp, s_pl_bad (by omega) q44_s])).symm), rfl⟩)
          · skip
            obtain ⟨x47, q44_s, q44_l, rfl, rfl⟩ := q46
            show pl _ _ _ (47, [(0, .ref m0), (1, .int (nI s)), (2, .int (nI l.length)), (3, .int (nI k))], [.int (nI x47)], M) _
            refine ps_st (S' := (48, [(3, .int (nI x47)), (0, .ref m0), (1, .int (nI s)), (2, .int (nI l.length))], [], M)) rfl rfl rfl ?_
            refine ps_st (S' := (49, [(3, .int (nI x47)), (0, .ref m0), (1, .int (nI s)), (2, .int (nI l.length))], [.int (nI x47)], M)) rfl rfl rfl ?_
            refine ps_if (S1 := (25, [(0, .ref m0), (1, .int (nI s)), (2, .int (nI l.length)), (3, .int (nI x47))], [], M)) (S2 := (52, [(3, .int (nI x47)), (0, .ref m0), (1, .int (nI s)), (2, .int (nI l.length))], [], M)) rfl rfl rfl (fun c_49 => ?_) (fun c_49 => ?_)
            rotate_left
            · exact absurd (Int32.not_lt.mp (nI_n0 (by omega))) (of_decide_eq_false c_49)
            exact ih (x47) (w + pW (l.getD k 0))  (by have := pW_le (l.getD k 0); omega) (h40) (by
                rw [← hp, s_pl_step (by omega) q44_s])
  refine ps_st (S' := (1, [(0, .ref m0), (1, .int (nI s))], [.ref m0], M)) rfl rfl rfl ?_
  refine ps_st (S' := (2, [(0, .ref m0), (1, .int (nI s))], [.int (nI s), .ref m0], M)) rfl rfl rfl ?_
  refine pl_call (a := [.ref m0, .int (nI s)]) (rest := []) rfl rfl rfl (rd_length (tx := tx) (cN := cN) (A := A) (s := s) (l := l) hR hY (hs)) (fun v48 M49 q50 => ?_)
  obtain ⟨rfl, rfl⟩ := q50
  show pl _ _ _ (5, [(0, .ref m0), (1, .int (nI s))], [.int (nI (l.length))], M) _
  refine ps_st (S' := (6, [(2, .int (nI (l.length))), (0, .ref m0), (1, .int (nI s))], [], M)) rfl rfl rfl ?_
  refine ps_st (S' := (7, [(2, .int (nI (l.length))), (0, .ref m0), (1, .int (nI s))], [.int (nI (l.length))], M)) rfl rfl rfl ?_
  refine ps_if (S1 := (21, [], [], M)) (S2 := (10, [(2, .int (nI (l.length))), (0, .ref m0), (1, .int (nI s))], [], M)) rfl rfl rfl (fun c_7 => ?_) (fun c_7 => ?_)
  · have c_7 : (nI (l.length)) = 0 := of_decide_eq_true c_7
    have n_7 : l.length = 0 := (eq_nI (p := l.length) (n := 0) (by omega) (by decide)).mp c_7
    refine ps_st (S' := (22, [], [.int 0], M)) rfl rfl rfl ?_
    exact ps_ret rfl rfl (⟨congrArg (fun x => some (Value.int (nI x))) (show 0 = mthN l from (mth_no (by omega)).symm), rfl⟩)
  · have c_7 : ¬ ((nI (l.length)) = 0) := of_decide_eq_false c_7
    have n_7 : ¬ (l.length = 0) := fun h9 => c_7 ((eq_nI (p := l.length) (n := 0) (by omega) (by decide)).mpr h9)
    refine ps_st (S' := (11, [(2, .int (nI (l.length))), (0, .ref m0), (1, .int (nI s))], [.ref m0], M)) rfl rfl rfl ?_
    refine ps_st (S' := (12, [(2, .int (nI (l.length))), (0, .ref m0), (1, .int (nI s))], [.int (nI s), .ref m0], M)) rfl rfl rfl ?_
    refine ps_st (S' := (13, [(2, .int (nI (l.length))), (0, .ref m0), (1, .int (nI s))], [.int 0, .int (nI s), .ref m0], M)) rfl rfl rfl ?_
    refine pl_call (a := [.ref m0, .int (nI s), .int 0]) (rest := []) rfl rfl rfl (rd_at (tx := tx) (cN := cN) (A := A) (s := s) (l := l) (k := 0) hR hY (hs) (by omega)) (fun v51 M52 q53 => ?_)
    obtain ⟨rfl, rfl⟩ := q53
    show pl _ _ _ (16, [(2, .int (nI (l.length))), (0, .ref m0), (1, .int (nI s))], [.int (nI (l.getD 0 0))], M) _
    have hc_13 := hY.ch hs (k := 0) (by omega)
    refine ps_st (S' := (18, [(2, .int (nI (l.length))), (0, .ref m0), (1, .int (nI s))], [.int 40, .int (nI (l.getD 0 0))], M)) rfl rfl rfl ?_
    refine ps_if2 (S1 := (23, [(2, .int (nI (l.length))), (0, .ref m0), (1, .int (nI s))], [], M)) (S2 := (21, [], [], M)) rfl rfl rfl (fun c_18 => ?_) (fun c_18 => ?_)
    · have c_18 : (nI (l.getD 0 0)) = 40 := of_decide_eq_true c_18
      have n_18 : l.getD 0 0 = 40 := (eq_nI (p := l.getD 0 0) (n := 40) (by omega) (by decide)).mp c_18
      refine ps_st (S' := (24, [(2, .int (nI (l.length))), (0, .ref m0), (1, .int (nI s))], [.int 1], M)) rfl rfl rfl ?_
      refine ps_st (S' := (25, [(0, .ref m0), (1, .int (nI s)), (2, .int (nI (l.length))), (3, .int 1)], [], M)) rfl rfl rfl ?_
      exact (LL kf) (1) (0)  (by omega) (by omega) (rfl)
    · have c_18 : ¬ ((nI (l.getD 0 0)) = 40) := of_decide_eq_false c_18
      have n_18 : ¬ (l.getD 0 0 = 40) := fun h9 => c_18 ((eq_nI (p := l.getD 0 0) (n := 40) (by omega) (by decide)).mpr h9)
      refine ps_st (S' := (22, [], [.int 0], M)) rfl rfl rfl ?_
      exact ps_ret rfl rfl (⟨congrArg (fun x => some (Value.int (nI x))) (show 0 = mthN l from (mth_no (by omega)).symm), rfl⟩)
set_option maxHeartbeats 1000000 in
theorem rd_endsV {g : xe_G} {m0 : Nat} {q : Nat → Nat} {z : Nat × Nat} {I : rI} {R : rR} {M : mi_H} {tx : List (List Nat)} {cN : Nat} {A : Nat → Nat} {s : Nat} {l : List Nat} (hR : RS g m0 q z I R M)  (hY : SYT tx cN A I R) (hs : s < tx.length ∧ tx.getD s [] = l) (hm : ¬ mthN l = 0) : pt (mT g) 203 [.ref m0, .int (nI s)] M (fun v M' => (v = some (.int (nI (nresN l))) ∧ M = M')) := by
  refine pt_in (b := mb_203 g) rfl (fun kf => ?_)
  show pl (mT g) kf (mb_203 g).2 (0, [(0, .ref m0), (1, .int (nI s))], [], M) _
  have hln := hY.ln hs
  have hts := hY.1.2.2
  have hm2 : 2 ≤ l.length := by
    obtain ⟨-, -, k, W, -, h1, -, h2, -⟩ := mth_in hm
    omega
  refine ps_st (S' := (1, [(0, .ref m0), (1, .int (nI s))], [.ref m0], M)) rfl rfl rfl ?_
  refine ps_st (S' := (2, [(0, .ref m0), (1, .int (nI s))], [.int (nI s), .ref m0], M)) rfl rfl rfl ?_
  refine ps_st (S' := (3, [(0, .ref m0), (1, .int (nI s))], [.ref m0, .int (nI s), .ref m0], M)) rfl rfl rfl ?_
  refine ps_st (S' := (4, [(0, .ref m0), (1, .int (nI s))], [.int (nI s), .ref m0, .int (nI s), .ref m0], M)) rfl rfl rfl ?_
  refine pl_call (a := [.ref m0, .int (nI s)]) (rest := [.int (nI s), .ref m0]) rfl rfl rfl (rd_length (tx := tx) (cN := cN) (A := A) (s := s) (l := l) hR hY (hs)) (fun v1 M2 q3 => ?_)
  obtain ⟨rfl, rfl⟩ := q3
  show pl _ _ _ (7, [(0, .ref m0), (1, .int (nI s))], [.int (nI (l.length)), .int (nI s), .ref m0], M) _
  refine ps_st (S' := (8, [(0, .ref m0), (1, .int (nI s))], [.int 1, .int (nI (l.length)), .int (nI s), .ref m0], M)) rfl rfl rfl ?_
  refine ps_st (S' := (9, [(0, .ref m0), (1, .int (nI s))], [.int ((nI (l.length)) - 1), .int (nI s), .ref m0], M)) rfl rfl rfl ?_
  rw [nI_sub1 (p := l.length) (k := 1) (x := 1) rfl (by omega) (by omega)]
  show pl _ _ _ (_, [(0, .ref m0), (1, .int (nI s))], [.int (nI (l.length - 1)), .int (nI s), .ref m0], M) _
  refine pl_call (a := [.ref m0, .int (nI s), .int (nI (l.length - 1))]) (rest := []) rfl rfl rfl (rd_at (tx := tx) (cN := cN) (A := A) (s := s) (l := l) (k := (l.length - 1)) hR hY (hs) (by omega)) (fun v4 M5 q6 => ?_)
  obtain ⟨rfl, rfl⟩ := q6
  show pl _ _ _ (12, [(0, .ref m0), (1, .int (nI s))], [.int (nI (l.getD (l.length - 1) 0))], M) _
  have hc_9 := hY.ch hs (k := l.length - 1) (by omega)
  refine ps_st (S' := (14, [(0, .ref m0), (1, .int (nI s))], [.int 86, .int (nI (l.getD (l.length - 1) 0))], M)) rfl rfl rfl ?_
  refine ps_if2 (S1 := (38, [], [], M)) (S2 := (17, [(0, .ref m0), (1, .int (nI s))], [], M)) rfl rfl rfl (fun c_14 => ?_) (fun c_14 => ?_)
  · have c_14 : ¬ (nI (l.getD (l.length - 1) 0)) = 86 := of_decide_eq_true c_14
    have n_14 : ¬ (l.getD (l.length - 1) 0 = 86) := fun h9 => c_14 ((eq_nI (p := l.getD (l.length - 1) 0) (n := 86) (by omega) (by decide)).mpr h9)
    refine ps_st (S' := (39, [], [.int 0], M)) rfl rfl rfl ?_
    exact ps_ret rfl rfl (⟨congrArg (fun x => some (Value.int (nI x))) (show 0 = nresN l from by
        obtain ⟨-, -, k, W, -, -, -, -, -, -, hr⟩ := mth_in hm
        rw [hr, if_neg (by omega)]), rfl⟩)
  · have c_14 : ¬ (¬ (nI (l.getD (l.length - 1) 0)) = 86) := of_decide_eq_false c_14
    have n_14 : l.getD (l.length - 1) 0 = 86 := (eq_nI (p := l.getD (l.length - 1) 0) (n := 86) (by omega) (by decide)).mp (Decidable.not_not.mp c_14)
    refine ps_st (S' := (18, [(0, .ref m0), (1, .int (nI s))], [.ref m0], M)) rfl rfl rfl ?_
    refine ps_st (S' := (19, [(0, .ref m0), (1, .int (nI s))], [.int (nI s), .ref m0], M)) rfl rfl rfl ?_
    refine ps_st (S' := (20, [(0, .ref m0), (1, .int (nI s))], [.ref m0, .int (nI s), .ref m0], M)) rfl rfl rfl ?_
    refine ps_st (S' := (21, [(0, .ref m0), (1, .int (nI s))], [.int (nI s), .ref m0, .int (nI s), .ref m0], M)) rfl rfl rfl ?_
    refine pl_call (a := [.ref m0, .int (nI s)]) (rest := [.int (nI s), .ref m0]) rfl rfl rfl (rd_length (tx := tx) (cN := cN) (A := A) (s := s) (l := l) hR hY (hs)) (fun v7 M8 q9 => ?_)
    obtain ⟨rfl, rfl⟩ := q9
    show pl _ _ _ (24, [(0, .ref m0), (1, .int (nI s))], [.int (nI (l.length)), .int (nI s), .ref m0], M) _
    refine ps_st (S' := (25, [(0, .ref m0), (1, .int (nI s))], [.int 2, .int (nI (l.length)), .int (nI s), .ref m0], M)) rfl rfl rfl ?_
    refine ps_st (S' := (26, [(0, .ref m0), (1, .int (nI s))], [.int ((nI (l.length)) - 2), .int (nI s), .ref m0], M)) rfl rfl rfl ?_
    rw [nI_sub1 (p := l.length) (k := 2) (x := 2) rfl (by omega) (by omega)]
    show pl _ _ _ (_, [(0, .ref m0), (1, .int (nI s))], [.int (nI (l.length - 2)), .int (nI s), .ref m0], M) _
    refine pl_call (a := [.ref m0, .int (nI s), .int (nI (l.length - 2))]) (rest := []) rfl rfl rfl (rd_at (tx := tx) (cN := cN) (A := A) (s := s) (l := l) (k := (l.length - 2)) hR hY (hs) (by omega)) (fun v10 M11 q12 => ?_)
    obtain ⟨rfl, rfl⟩ := q12
    show pl _ _ _ (29, [(0, .ref m0), (1, .int (nI s))], [.int (nI (l.getD (l.length - 2) 0))], M) _
    have hc_26 := hY.ch hs (k := l.length - 2) (by omega)
    refine ps_st (S' := (31, [(0, .ref m0), (1, .int (nI s))], [.int 41, .int (nI (l.getD (l.length - 2) 0))], M)) rfl rfl rfl ?_
    refine ps_if2 (S1 := (38, [], [], M)) (S2 := (34, [(0, .ref m0), (1, .int (nI s))], [], M)) rfl rfl rfl (fun c_31 => ?_) (fun c_31 => ?_)
    · have c_31 : ¬ (nI (l.getD (l.length - 2) 0)) = 41 := of_decide_eq_true c_31
      have n_31 : ¬ (l.getD (l.length - 2) 0 = 41) := fun h9 => c_31 ((eq_nI (p := l.getD (l.length - 2) 0) (n := 41) (by omega) (by decide)).mpr h9)
      refine ps_st (S' := (39, [], [.int 0], M)) rfl rfl rfl ?_
      exact ps_ret rfl rfl (⟨congrArg (fun x => some (Value.int (nI x))) (show 0 = nresN l from by
          obtain ⟨-, -, k, W, -, -, -, -, -, -, hr⟩ := mth_in hm
          rw [hr, if_neg (by omega)]), rfl⟩)
    · have c_31 : ¬ (¬ (nI (l.getD (l.length - 2) 0)) = 41) := of_decide_eq_false c_31
      have n_31 : l.getD (l.length - 2) 0 = 41 := (eq_nI (p := l.getD (l.length - 2) 0) (n := 41) (by omega) (by decide)).mp (Decidable.not_not.mp c_31)
      refine ps_st (S' := (35, [(0, .ref m0), (1, .int (nI s))], [.int 1], M)) rfl rfl rfl ?_
      refine ps_st (S' := (39, [], [.int 1], M)) rfl rfl rfl ?_
      exact ps_ret rfl rfl (⟨congrArg (fun x => some (Value.int (nI x))) (show 1 = nresN l from by
          obtain ⟨-, -, k, W, -, -, -, -, -, -, hr⟩ := mth_in hm
          rw [hr, if_pos (by omega)]), rfl⟩)
