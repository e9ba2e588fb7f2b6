/-! operands and targets: class and reference say the same (my own text) -/
section CZA
variable {f : Nat → Int32} {n : Nat} {E : List (Nat × Nat)} {mj cb L ml pc : Nat}
def orN (f : Nat → Int32) (n : Nat) (E : List (Nat × Nat)) (mj cb ml pc op : Nat) : Nat := match opC f cb pc op with
  | none => 0
  | some x => okI f n E mj ml (x.1, 0, x.2.1, x.2.2.1, x.2.2.2.1, x.2.2.2.2.1, x.2.2.2.2.2, none)
theorem or_of {op : Nat} {x : Nat × Int32 × Int32 × Nat × Nat × Option Int32} (h : opC f cb pc op = some x) : orN f n E mj cb ml pc op = okI f n E mj ml (x.1, 0, x.2.1, x.2.2.1, x.2.2.2.1, x.2.2.2.2.1, x.2.2.2.2.2, none) := by
  unfold orN
  rw [h]
theorem ok_lp {o sz lp tc v : Nat} {w : Int32} {of : Option Int32} {sw : Option Nat} (h1 : ¬ (o = 16 ∨ o = 17 ∨ o = 170 ∨ o = 171)) (h2 : 0 < lp) (hv : v < 65536) : okI f n E mj ml (o, sz, nI v, w, lp, tc, of, sw) = if (o = 169 ∧ 51 ≤ mj) ∨ ml < v + lp then 0 else 1 := by
  unfold okI ohN
  dsimp only
  rw [if_neg h1, if_pos h2, nI_toNat (by omega)]
theorem ok_0 {o sz tc v w : Nat} {of : Option Int32} {sw : Option Nat} (h1 : ¬ (o = 16 ∨ o = 17 ∨ o = 170 ∨ o = 171)) (hv : v < 65536) (hw : w < 65536) : okI f n E mj ml (o, sz, nI v, nI w, 0, tc, of, sw) = ohN f n E mj ml o v w 0 := by
  unfold okI
  dsimp only
  rw [if_neg h1, nI_toNat (by omega), nI_toNat (by omega)]
theorem or_168 : orN f n E mj cb ml pc 168 = if mj < 51 then 1 else 0 := rfl
theorem or_201 : orN f n E mj cb ml pc 201 = if mj < 51 then 1 else 0 := rfl
theorem or_lc {op : Nat} (h1 : ¬ (26 ≤ op ∧ op ≤ 45)) (h2 : ¬ (59 ≤ op ∧ op ≤ 78)) (h3 : ¬ lcO op = 0) (h4 : ¬ (op = 16 ∨ op = 17 ∨ op = 170 ∨ op = 171)) : orN f n E mj cb ml pc op = if (op = 169 ∧ 51 ≤ mj) ∨ ml < by1 f (cb + pc + 1) + lpO op then 0 else 1 := by
  have b1 := by1_lt f (cb + pc + 1)
  have b2 := lpO_le op
  rw [or_of (show opC f cb pc op = some (op, nI (by1 f (cb + pc + 1)), 0, lpO op, 0, none) from by unfold opC; rw [if_neg h1, if_neg h2, if_pos h3])]
  dsimp only
  exact ok_lp h4 (by omega) (by omega)
theorem or_169 : orN f n E mj cb ml pc 169 = if mj < 51 ∧ by1 f (cb + pc + 1) + 1 ≤ ml then 1 else 0 := by
  rw [or_lc (by decide) (by decide) (by decide) (by decide), show lpO 169 = 1 from rfl]
  by_cases h : mj < 51 ∧ by1 f (cb + pc + 1) + 1 ≤ ml
  · rw [if_pos h, if_neg (by omega)]
  · rw [if_neg h, if_pos (by omega)]
theorem lo_if {i k : Nat} : loN i k ml = if ml < i + k then 0 else 1 := by
  unfold loN
  by_cases h : ml < i + k
  · rw [if_pos h, if_neg (by omega)]
  · rw [if_neg h, if_pos (by omega)]
theorem or_L {op : Nat} (h : (21 ≤ op ∧ op ≤ 25) ∨ (54 ≤ op ∧ op ≤ 58)) : orN f n E mj cb ml pc op = loN (by1 f (cb + pc + 1)) (lpO op) ml := by
  rw [or_lc (by omega) (by omega) (by unfold lcO; rw [if_pos (by omega)]; decide) (by omega), lo_if]
  by_cases h2 : ml < by1 f (cb + pc + 1) + lpO op
  · rw [if_pos h2, if_pos (Or.inr h2)]
  · rw [if_neg h2, if_neg (by omega)]
theorem or_S1 {op : Nat} (h : 26 ≤ op ∧ op ≤ 45) : orN f n E mj cb ml pc op = loN ((op - 26) % 4) (lpO (21 + (op - 26) / 4)) ml := by
  have b2 := lpO_le (21 + (op - 26) / 4)
  rw [or_of (show opC f cb pc op = some (21 + (op - 26) / 4, nI ((op - 26) % 4), 0, lpO (21 + (op - 26) / 4), 0, none) from by unfold opC; rw [if_pos h])]
  dsimp only
  rw [ok_lp (by omega) (by omega) (by omega), lo_if]
  by_cases h2 : ml < (op - 26) % 4 + lpO (21 + (op - 26) / 4)
  · rw [if_pos h2, if_pos (Or.inr h2)]
  · rw [if_neg h2, if_neg (by omega)]
theorem or_S2 {op : Nat} (h : 59 ≤ op ∧ op ≤ 78) : orN f n E mj cb ml pc op = loN ((op - 59) % 4) (lpO (54 + (op - 59) / 4)) ml := by
  have b2 := lpO_le (54 + (op - 59) / 4)
  rw [or_of (show opC f cb pc op = some (54 + (op - 59) / 4, nI ((op - 59) % 4), 0, lpO (54 + (op - 59) / 4), 0, none) from by unfold opC; rw [if_neg (by omega), if_pos h])]
  dsimp only
  rw [ok_lp (by omega) (by omega) (by omega), lo_if]
  by_cases h2 : ml < (op - 59) % 4 + lpO (54 + (op - 59) / 4)
  · rw [if_pos h2, if_pos (Or.inr h2)]
  · rw [if_neg h2, if_neg (by omega)]
theorem or_132 : orN f n E mj cb ml pc 132 = loN (by1 f (cb + pc + 1)) 1 ml := by
  have b1 := by1_lt f (cb + pc + 1)
  rw [or_of (show opC f cb pc 132 = some (132, nI (by1 f (cb + pc + 1)), s8 (by1 f (cb + pc + 2)), 1, 0, none) from rfl)]
  dsimp only
  rw [ok_lp (by decide) (by decide) (by omega), lo_if]
  by_cases h2 : ml < by1 f (cb + pc + 1) + 1
  · rw [if_pos h2, if_pos (Or.inr h2)]
  · rw [if_neg h2, if_neg (by omega)]
theorem or_v {op o v w : Nat} {of : Option Int32} {tc : Nat} (h : opC f cb pc op = some (o, nI v, nI w, 0, tc, of)) (h1 : ¬ (o = 16 ∨ o = 17 ∨ o = 170 ∨ o = 171)) (hv : v < 65536) (hw : w < 65536) : orN f n E mj cb ml pc op = ohN f n E mj ml o v w 0 := by
  rw [or_of h]
  exact ok_0 h1 hv hw
theorem or_188 : orN f n E mj cb ml pc 188 = if 4 ≤ by1 f (cb + pc + 1) ∧ by1 f (cb + pc + 1) ≤ 11 then 1 else 0 := by
  have b1 := by1_lt f (cb + pc + 1)
  rw [or_v (o := 188) (v := by1 f (cb + pc + 1)) (w := 0) rfl (by decide) (by omega) (by decide)]
  rfl
theorem or_18 : orN f n E mj cb ml pc 18 = ld1N f n E mj (by1 f (cb + pc + 1)) (tg f E (by1 f (cb + pc + 1))) := by
  have b1 := by1_lt f (cb + pc + 1)
  rw [or_v (o := 18) (v := by1 f (cb + pc + 1)) (w := 0) rfl (by decide) (by omega) (by decide)]
  rfl
theorem or_19 : orN f n E mj cb ml pc 19 = ld1N f n E mj (by2 f (cb + pc + 1)) (tg f E (by2 f (cb + pc + 1))) := by
  have b1 := by2_lt f (cb + pc + 1)
  rw [or_v (o := 18) (v := by2 f (cb + pc + 1)) (w := 0) rfl (by decide) (by omega) (by decide)]
  rfl
theorem or_20 : orN f n E mj cb ml pc 20 = ld2N f n E (by2 f (cb + pc + 1)) (tg f E (by2 f (cb + pc + 1))) := by
  have b1 := by2_lt f (cb + pc + 1)
  rw [or_v (o := 20) (v := by2 f (cb + pc + 1)) (w := 0) rfl (by decide) (by omega) (by decide)]
  rfl
theorem or_178 {op : Nat} (h : 178 ≤ op ∧ op ≤ 181) : orN f n E mj cb ml pc op = if tg f E (by2 f (cb + pc + 1)) = 9 then 1 else 0 := by
  have b1 := by2_lt f (cb + pc + 1)
  rcases (show op = 178 ∨ op = 179 ∨ op = 180 ∨ op = 181 by omega) with rfl | rfl | rfl | rfl
  all_goals (rw [or_v (v := by2 f (cb + pc + 1)) (w := 0) rfl (by decide) (by omega) (by decide)]; rfl)
theorem or_182 : orN f n E mj cb ml pc 182 = if tg f E (by2 f (cb + pc + 1)) = 10 ∧ niN f n E (by2 f (cb + pc + 1)) = 0 then 1 else 0 := by
  have b1 := by2_lt f (cb + pc + 1)
  rw [or_v (o := 182) (v := by2 f (cb + pc + 1)) (w := 0) rfl (by decide) (by omega) (by decide)]
  rfl
theorem or_183 : orN f n E mj cb ml pc 183 = if tg f E (by2 f (cb + pc + 1)) = 10 ∨ (tg f E (by2 f (cb + pc + 1)) = 11 ∧ 52 ≤ mj) then 1 else 0 := by
  have b1 := by2_lt f (cb + pc + 1)
  rw [or_v (o := 183) (v := by2 f (cb + pc + 1)) (w := 0) rfl (by decide) (by omega) (by decide)]
  rfl
theorem or_184 : orN f n E mj cb ml pc 184 = if (tg f E (by2 f (cb + pc + 1)) = 10 ∨ (tg f E (by2 f (cb + pc + 1)) = 11 ∧ 52 ≤ mj)) ∧ niN f n E (by2 f (cb + pc + 1)) = 0 then 1 else 0 := by
  have b1 := by2_lt f (cb + pc + 1)
  rw [or_v (o := 184) (v := by2 f (cb + pc + 1)) (w := 0) rfl (by decide) (by omega) (by decide)]
  show (if ¬ meiN mj (tg f E (by2 f (cb + pc + 1))) = 0 ∧ niN f n E (by2 f (cb + pc + 1)) = 0 then 1 else 0) = _
  unfold meiN
  by_cases h : tg f E (by2 f (cb + pc + 1)) = 10 ∨ (tg f E (by2 f (cb + pc + 1)) = 11 ∧ 52 ≤ mj)
  · rw [if_pos h]
    by_cases h2 : niN f n E (by2 f (cb + pc + 1)) = 0
    · rw [if_pos ⟨by decide, h2⟩, if_pos ⟨h, h2⟩]
    · rw [if_neg (fun h9 => h2 h9.2), if_neg (fun h9 => h2 h9.2)]
  · rw [if_neg h, if_neg (fun h9 => h9.1 rfl), if_neg (fun h9 => h h9.1)]
theorem or_185 : orN f n E mj cb ml pc 185 = if tg f E (by2 f (cb + pc + 1)) = 11 ∧ by1 f (cb + pc + 3) = argN (tX f n E (se f E (se f E (by2 f (cb + pc + 1))))) + 1 ∧ by1 f (cb + pc + 4) = 0 then 1 else 0 := by
  have b1 := by2_lt f (cb + pc + 1)
  have b3 := by1_lt f (cb + pc + 3)
  have e : opC f cb pc 185 = match ixS f cb pc 185 with
    | none => none
    | some x => some (185, x.1, x.2, 0, 0, none) := rfl
  have e2 : ixS f cb pc 185 = if by1 f (cb + pc + 4) = 0 then some (nI (by2 f (cb + pc + 1)), nI (by1 f (cb + pc + 3))) else none := rfl
  by_cases h : by1 f (cb + pc + 4) = 0
  · rw [if_pos h] at e2
    rw [e2] at e
    rw [or_v (o := 185) (v := by2 f (cb + pc + 1)) (w := by1 f (cb + pc + 3)) e (by decide) (by omega) (by omega)]
    show (if tg f E (by2 f (cb + pc + 1)) = 11 ∧ by1 f (cb + pc + 3) = argN (tX f n E (se f E (se f E (by2 f (cb + pc + 1))))) + 1 then 1 else 0) = _
    by_cases h2 : tg f E (by2 f (cb + pc + 1)) = 11 ∧ by1 f (cb + pc + 3) = argN (tX f n E (se f E (se f E (by2 f (cb + pc + 1))))) + 1
    · rw [if_pos h2, if_pos ⟨h2.1, h2.2, h⟩]
    · rw [if_neg h2, if_neg (fun h9 => h2 ⟨h9.1, h9.2.1⟩)]
  · rw [if_neg h] at e2
    rw [e2] at e
    unfold orN
    rw [e, if_neg (fun h9 => h h9.2.2)]
theorem by2_0 {p : Nat} : by2 f p = 0 ↔ by1 f p = 0 ∧ by1 f (p + 1) = 0 := by
  have h1 := by1_lt f p
  have h2 := by1_lt f (p + 1)
  unfold by2
  omega
theorem or_186 : orN f n E mj cb ml pc 186 = if tg f E (by2 f (cb + pc + 1)) = 18 ∧ by1 f (cb + pc + 3) = 0 ∧ by1 f (cb + pc + 4) = 0 then 1 else 0 := by
  have b1 := by2_lt f (cb + pc + 1)
  have b3 := by2_0 (f := f) (p := cb + pc + 3)
  have e : opC f cb pc 186 = match ixS f cb pc 186 with
    | none => none
    | some x => some (186, x.1, x.2, 0, 0, none) := rfl
  have e2 : ixS f cb pc 186 = if by2 f (cb + pc + 3) = 0 then some (nI (by2 f (cb + pc + 1)), nI 0) else none := rfl
  by_cases h : by2 f (cb + pc + 3) = 0
  · rw [if_pos h] at e2
    rw [e2] at e
    rw [or_v (o := 186) (v := by2 f (cb + pc + 1)) (w := 0) e (by decide) (by omega) (by decide)]
    show (if tg f E (by2 f (cb + pc + 1)) = 18 then 1 else 0) = _
    by_cases h2 : tg f E (by2 f (cb + pc + 1)) = 18
    · rw [if_pos h2, if_pos ⟨h2, b3.mp h⟩]
    · rw [if_neg h2, if_neg (fun h9 => h2 h9.1)]
  · rw [if_neg h] at e2
    rw [e2] at e
    unfold orN
    rw [e, if_neg (fun h9 => h (b3.mpr h9.2))]
theorem or_187 : orN f n E mj cb ml pc 187 = plnN f n E (by2 f (cb + pc + 1)) := by
  have b1 := by2_lt f (cb + pc + 1)
  rw [or_v (o := 187) (v := by2 f (cb + pc + 1)) (w := 0) rfl (by decide) (by omega) (by decide)]
  rfl
theorem or_189 : orN f n E mj cb ml pc 189 = if tg f E (by2 f (cb + pc + 1)) = 7 ∧ dmN (tX f n E (fi f E (by2 f (cb + pc + 1)))) < 255 then 1 else 0 := by
  have b1 := by2_lt f (cb + pc + 1)
  rw [or_v (o := 189) (v := by2 f (cb + pc + 1)) (w := 0) rfl (by decide) (by omega) (by decide)]
  rfl
theorem or_192 : orN f n E mj cb ml pc 192 = if tg f E (by2 f (cb + pc + 1)) = 7 then 1 else 0 := by
  have b1 := by2_lt f (cb + pc + 1)
  rw [or_v (o := 192) (v := by2 f (cb + pc + 1)) (w := 0) rfl (by decide) (by omega) (by decide)]
  rfl
theorem or_193 : orN f n E mj cb ml pc 193 = if tg f E (by2 f (cb + pc + 1)) = 7 then 1 else 0 := by
  have b1 := by2_lt f (cb + pc + 1)
  rw [or_v (o := 193) (v := by2 f (cb + pc + 1)) (w := 0) rfl (by decide) (by omega) (by decide)]
  rfl
theorem or_197 : orN f n E mj cb ml pc 197 = if tg f E (by2 f (cb + pc + 1)) = 7 ∧ 1 ≤ by1 f (cb + pc + 3) ∧ by1 f (cb + pc + 3) ≤ dmN (tX f n E (fi f E (by2 f (cb + pc + 1)))) then 1 else 0 := by
  have b1 := by2_lt f (cb + pc + 1)
  have b3 := by1_lt f (cb + pc + 3)
  rw [or_v (o := 197) (v := by2 f (cb + pc + 1)) (w := by1 f (cb + pc + 3)) rfl (by decide) (by omega) (by omega)]
  rfl
theorem oh_1 {o : Nat} (h : ¬ (o = 168 ∨ o = 188 ∨ o = 18 ∨ o = 20 ∨ (178 ≤ o ∧ o ≤ 187) ∨ o = 189 ∨ o = 192 ∨ o = 193 ∨ o = 197)) : ohN f n E mj ml o 0 0 0 = 1 := by
  unfold ohN caN
  rw [if_neg (by omega), if_neg (by omega), if_neg (by omega), if_neg (by omega), if_neg (by omega), if_neg (by omega), if_neg (by omega), if_neg (by omega), if_neg (by omega), if_neg (by omega), if_neg (by omega), if_neg (by omega), if_neg (by omega), if_neg (by omega), if_neg (by omega)]
theorem or_1 {op : Nat} (h : op ≤ 201 ∧ ¬ (18 ≤ op ∧ op ≤ 45) ∧ ¬ (54 ≤ op ∧ op ≤ 78) ∧ ¬ op = 132 ∧ ¬ op = 168 ∧ ¬ op = 169 ∧ ¬ (178 ≤ op ∧ op ≤ 189) ∧ ¬ op = 192 ∧ ¬ op = 193 ∧ ¬ op = 196 ∧ ¬ op = 197 ∧ ¬ op = 201) : orN f n E mj cb ml pc op = 1 := by
  have hl : lcO op = 0 := if_neg (by omega)
  by_cases h1 : (153 ≤ op ∧ op ≤ 168) ∨ op = 198 ∨ op = 199
  · rw [or_v (o := op) (v := 0) (w := 0) (tc := 1) (of := some (s16 (by2 f (cb + pc + 1)))) (by unfold opC; rw [if_neg (by omega), if_neg (by omega), if_neg (by omega), if_pos h1]; rfl) (by omega) (by decide) (by decide)]
    exact oh_1 (by omega)
  · by_cases h2 : op = 16
    · subst h2
      rfl
    · by_cases h3 : op = 17
      · subst h3
        rfl
      · by_cases h4 : op = 200
        · subst h4
          rw [or_v (o := 167) (v := 0) (w := 0) rfl (by decide) (by decide) (by decide)]
          exact oh_1 (by decide)
        · have hs : szO op < 3 := by
            unfold szO
            rw [if_neg (by omega), if_neg (by omega), if_neg (by omega), if_neg (by omega), if_neg (by omega), if_neg (by omega)]
            decide
          have e : opC f cb pc op = some (op, nI 0, nI 0, 0, 0, none) := by
            unfold opC
            rw [if_neg (by omega), if_neg (by omega), if_neg (by omega), if_neg h1, if_neg h2, if_neg h3, if_neg (by omega), if_neg (by omega), if_neg (by omega), if_neg h4, if_neg (by omega), show ixS f cb pc op = some (0, 0) from by unfold ixS; rw [if_pos hs]]
            rfl
          by_cases h5 : op = 170 ∨ op = 171
          · rw [or_of e]
            unfold okI
            rw [if_pos (by dsimp only; omega)]
          · rw [or_v e (by omega) (by decide) (by decide)]
            exact oh_1 (by omega)
theorem le1_or (f : Nat → Int32) (n : Nat) (E : List (Nat × Nat)) (mj cb ml pc op : Nat) : orN f n E mj cb ml pc op < 2 := by
  unfold orN
  split
  · decide
  · exact okI_le _ _ _ _ _ _
/-- lengths -/
theorem len_of {op : Nat} (h : op ≤ 201) (h2 : ¬ (op = 170 ∨ op = 171 ∨ op = 196)) : (ltx 29).getD op 0 = szO op + 48 := by
  have e : ∀ o, o < 202 → o = 170 ∨ o = 171 ∨ o = 196 ∨ (ltx 29).getD o 0 = szO o + 48 := by decide +kernel
  have := e op (by omega)
  omega
/-- the size of an instruction, as the reference finds it -/
theorem va_big (h : 201 < by1 f (cb + pc)) : vaN f n E mj cb L ml pc = 0 := by
  unfold vaN inC
  rw [if_pos (Or.inr h)]
theorem in_sw {o : Nat} {x : Nat × Int32 × Int32 × Nat} (hp : pc < L) (ho : by1 f (cb + pc) = o) (h : o = 170 ∨ o = 171) (hs : swS f cb L pc o = some x) : inC f cb L pc = some (o, x.1, x.2.1, x.2.2.1, 0, x.2.2.2, none, some (pdN pc)) := by
  unfold inC
  rw [ho, if_neg (by omega), if_pos h, hs]
theorem va_sw {o : Nat} {x : Nat × Int32 × Int32 × Nat} (hp : pc < L) (ho : by1 f (cb + pc) = o) (h : o = 170 ∨ o = 171) (hs : swS f cb L pc o = some x) : vaN f n E mj cb L ml pc = x.1 ∧ 1 ≤ x.1 ∧ pc + x.1 ≤ L := by
  have h1 := in_sw hp ho h hs
  refine ⟨?_, (in_sz h1).2⟩
  unfold vaN
  rw [h1]
  dsimp only
  rw [show okI f n E mj ml (o, x.1, x.2.1, x.2.2.1, 0, x.2.2.2, none, some (pdN pc)) = 1 from by unfold okI; rw [if_pos (by dsimp only; omega)]]
  rfl
theorem va_sw0 {o : Nat} (hp : pc < L) (ho : by1 f (cb + pc) = o) (h : o = 170 ∨ o = 171) (hs : swS f cb L pc o = none) : vaN f n E mj cb L ml pc = 0 := by
  unfold vaN inC
  rw [ho, if_neg (by omega), if_pos h, hs]
theorem va_op (hp : pc < L) (h1 : by1 f (cb + pc) ≤ 201) (h2 : ¬ (by1 f (cb + pc) = 170 ∨ by1 f (cb + pc) = 171 ∨ by1 f (cb + pc) = 196)) (h3 : pc + szO (by1 f (cb + pc)) ≤ L) : vaN f n E mj cb L ml pc = if orN f n E mj cb ml pc (by1 f (cb + pc)) = 0 then 0 else szO (by1 f (cb + pc)) := by
  unfold vaN inC orN
  rw [if_neg (by omega), if_neg (by omega), if_neg (by omega), if_neg (by omega)]
  cases hx : opC f cb pc (by1 f (cb + pc)) with
  | none => rfl
  | some x => rfl
theorem va_lg (hp : pc < L) (h1 : by1 f (cb + pc) ≤ 201) (h2 : ¬ (by1 f (cb + pc) = 170 ∨ by1 f (cb + pc) = 171 ∨ by1 f (cb + pc) = 196)) (h3 : ¬ pc + szO (by1 f (cb + pc)) ≤ L) : vaN f n E mj cb L ml pc = 0 := by
  unfold vaN inC
  rw [if_neg (by omega), if_neg (by omega), if_neg (by omega), if_pos (by omega)]
/-- a wide one -/
def wsN (f : Nat → Int32) (mj cb ml pc : Nat) : Nat := if by1 f (cb + pc + 1) = 169 ∧ 51 ≤ mj then 0 else loN (by2 f (cb + pc + 2)) (lpO (by1 f (cb + pc + 1))) ml
theorem le1_ws (f : Nat → Int32) (mj cb ml pc : Nat) : wsN f mj cb ml pc < 2 := by
  unfold wsN
  split
  · decide
  · exact le1_lo _ _ _
theorem va_wn (hp : pc < L) (ho : by1 f (cb + pc) = 196) (h : wfI f cb L pc = -1) : vaN f n E mj cb L ml pc = 0 := by
  unfold vaN inC
  rw [ho, if_neg (by omega), if_neg (by decide), if_pos rfl]
  have e : wiS f cb L pc = none := by
    unfold wfI at h
    unfold wiS
    split at h
    · rw [if_pos (by omega)]
    · split at h
      · exact absurd h (by decide)
      · split at h
        · by_cases h4 : L < pc + 4
          · rw [if_pos h4]
          · rw [if_neg h4, if_neg (by assumption), if_pos (by assumption)]
        · exact absurd h (by decide)
  rw [e]
theorem va_wl {k : Nat} (hp : pc < L) (ho : by1 f (cb + pc) = 196) (h : wfI f cb L pc = nI k) (hk : k = 4 ∨ k = 6) (hL : ¬ pc + k ≤ L) : vaN f n E mj cb L ml pc = 0 := by
  unfold vaN inC
  rw [ho, if_neg (by omega), if_neg (by decide), if_pos rfl]
  have e : wiS f cb L pc = none := by
    unfold wfI at h
    unfold wiS
    by_cases h4 : L < pc + 4
    · rw [if_pos h4]
    · rw [if_neg h4]
      rw [if_neg (by omega)] at h
      by_cases h5 : by1 f (cb + pc + 1) = 132
      · rw [if_pos h5, if_pos (by omega)]
      · rw [if_neg h5] at h ⊢
        by_cases h6 : lcO (by1 f (cb + pc + 1)) = 0
        · rw [if_pos h6]
        · rw [if_neg h6] at h
          have : (4 : Int32) = nI 4 := rfl
          rw [this, eq_nI (by decide) (by omega)] at h
          omega
  rw [e]
theorem va_wo {k : Nat} (hp : pc < L) (ho : by1 f (cb + pc) = 196) (h : wfI f cb L pc = nI k) (hk : k = 4 ∨ k = 6) (hL : pc + k ≤ L) : vaN f n E mj cb L ml pc = if wsN f mj cb ml pc = 0 then 0 else k := by
  have b2 := by2_lt f (cb + pc + 2)
  have b3 := lpO_le (by1 f (cb + pc + 1))
  have e : ∃ w : Int32, wiS f cb L pc = some (by1 f (cb + pc + 1), k, nI (by2 f (cb + pc + 2)), w) ∧ ¬ (by1 f (cb + pc + 1) = 16 ∨ by1 f (cb + pc + 1) = 17 ∨ by1 f (cb + pc + 1) = 170 ∨ by1 f (cb + pc + 1) = 171) := by
    unfold wfI at h
    unfold wiS
    rw [if_neg (by omega)] at h
    rw [if_neg (by omega)]
    by_cases h5 : by1 f (cb + pc + 1) = 132
    · rw [if_pos h5] at h
      rw [show (6 : Int32) = nI 6 from rfl, eq_nI (by decide) (by omega)] at h
      rw [if_pos h5, if_neg (by omega), ← h]
      exact ⟨_, rfl, by omega⟩
    · rw [if_neg h5] at h ⊢
      by_cases h6 : lcO (by1 f (cb + pc + 1)) = 0
      · rw [if_pos h6] at h
        have : nI k = -1 := h.symm
        exact absurd this.symm (m1_ne (by omega))
      · rw [if_neg h6] at h
        rw [show (4 : Int32) = nI 4 from rfl, eq_nI (by decide) (by omega)] at h
        rw [if_neg h6, ← h]
        refine ⟨_, rfl, fun h9 => h6 ?_⟩
        rcases h9 with h9 | h9 | h9 | h9 <;> rw [h9] <;> rfl
  obtain ⟨w, e1, e2⟩ := e
  unfold vaN inC
  rw [ho, if_neg (by omega), if_neg (by decide), if_pos rfl, e1]
  dsimp only
  rw [ok_lp e2 (by omega) b2]
  unfold wsN
  by_cases h7 : by1 f (cb + pc + 1) = 169 ∧ 51 ≤ mj
  · rw [if_pos (Or.inl h7), if_pos h7]
  · rw [if_neg h7, lo_if]
    by_cases h8 : ml < by2 f (cb + pc + 2) + lpO (by1 f (cb + pc + 1))
    · rw [if_pos (Or.inr h8), if_pos h8]
    · have e3 : (if (by1 f (cb + pc + 1) = 169 ∧ 51 ≤ mj) ∨ ml < by2 f (cb + pc + 2) + lpO (by1 f (cb + pc + 1)) then 0 else 1) = 1 := if_neg (fun h9 => h9.elim h7 h8)
      rw [e3, if_neg h8]
theorem wf_3 : wfI f cb L pc = -1 ∨ ∃ k, (k = 4 ∨ k = 6) ∧ wfI f cb L pc = nI k := by
  unfold wfI
  split
  · exact Or.inl rfl
  · split
    · exact Or.inr ⟨6, Or.inr rfl, rfl⟩
    · split
      · exact Or.inl rfl
      · exact Or.inr ⟨4, Or.inl rfl, rfl⟩
end CZA
section CZB
variable {f : Nat → Int32} {n : Nat} {E : List (Nat × Nat)} {mj cb L ml pc : Nat} {S : List Nat}
theorem op_tc {op : Nat} {x : Nat × Int32 × Int32 × Nat × Nat × Option Int32} (h : opC f cb pc op = some x) (hn : ¬ ((153 ≤ op ∧ op ≤ 168) ∨ op = 198 ∨ op = 199 ∨ op = 200 ∨ op = 201)) : x.2.2.2.2.1 = 0 := by
  unfold opC at h
  by_cases c0 : 26 ≤ op ∧ op ≤ 45
  · rw [if_pos c0] at h
    cases h
    rfl
  · rw [if_neg c0] at h
    by_cases c1 : 59 ≤ op ∧ op ≤ 78
    · rw [if_pos c1] at h
      cases h
      rfl
    · rw [if_neg c1] at h
      by_cases c2 : ¬ lcO op = 0
      · rw [if_pos c2] at h
        cases h
        rfl
      · rw [if_neg c2] at h
        by_cases c3 : (153 ≤ op ∧ op ≤ 168) ∨ op = 198 ∨ op = 199
        · rw [if_pos c3] at h
          cases h
          omega
        · rw [if_neg c3] at h
          by_cases c4 : op = 16
          · rw [if_pos c4] at h
            cases h
            rfl
          · rw [if_neg c4] at h
            by_cases c5 : op = 17
            · rw [if_pos c5] at h
              cases h
              rfl
            · rw [if_neg c5] at h
              by_cases c6 : op = 18 ∨ op = 188
              · rw [if_pos c6] at h
                cases h
                rfl
              · rw [if_neg c6] at h
                by_cases c7 : op = 19
                · rw [if_pos c7] at h
                  cases h
                  rfl
                · rw [if_neg c7] at h
                  by_cases c8 : op = 132
                  · rw [if_pos c8] at h
                    cases h
                    rfl
                  · rw [if_neg c8] at h
                    by_cases c9 : op = 200
                    · rw [if_pos c9] at h
                      cases h
                      omega
                    · rw [if_neg c9] at h
                      by_cases c10 : op = 201
                      · rw [if_pos c10] at h
                        cases h
                        omega
                      · rw [if_neg c10] at h
                        cases hx1 : ixS f cb pc op with
                        | none =>
                          rw [hx1] at h
                          cases h
                        | some x1 =>
                          rw [hx1] at h
                          cases h
                          rfl
theorem in_tc {x : IC} (h : inC f cb L pc = some x) (hn : ¬ ((153 ≤ by1 f (cb + pc) ∧ by1 f (cb + pc) ≤ 168) ∨ by1 f (cb + pc) = 198 ∨ by1 f (cb + pc) = 199 ∨ by1 f (cb + pc) = 200 ∨ by1 f (cb + pc) = 201 ∨ by1 f (cb + pc) = 170 ∨ by1 f (cb + pc) = 171)) : x.2.2.2.2.2.1 = 0 := by
  unfold inC at h
  split at h
  · cases h
  · split at h
    · exfalso
      omega
    · split at h
      · split at h
        · cases h
        · cases h
          rfl
      · split at h
        · cases h
        · split at h
          · cases h
          · rename_i x1 hx
            cases h
            exact op_tc hx (by omega)
theorem in_op {x : IC} {y : Nat × Int32 × Int32 × Nat × Nat × Option Int32} (h : inC f cb L pc = some x) (h1 : ¬ (by1 f (cb + pc) = 170 ∨ by1 f (cb + pc) = 171 ∨ by1 f (cb + pc) = 196)) (hy : opC f cb pc (by1 f (cb + pc)) = some y) : x = (y.1, szO (by1 f (cb + pc)), y.2.1, y.2.2.1, y.2.2.2.1, y.2.2.2.2.1, y.2.2.2.2.2, none) := by
  unfold inC at h
  split at h
  · cases h
  · rw [if_neg (by omega), if_neg (by omega), hy] at h
    split at h
    · cases h
    · cases h
      rfl
theorem in_sws {x : IC} (h : inC f cb L pc = some x) (h3 : by1 f (cb + pc) = 170 ∨ by1 f (cb + pc) = 171) : x.2.2.2.2.2.2.2 = some (pdN pc) := by
  unfold inC at h
  split at h
  · cases h
  · first | rw [if_pos h3] at h | skip
    split at h
    · cases h
    · cases h
      rfl
theorem th_J {x : IC} (hpc : pc < 65540) (h : inC f cb L pc = some x) (ho : (153 ≤ by1 f (cb + pc) ∧ by1 f (cb + pc) ≤ 168) ∨ by1 f (cb + pc) = 198 ∨ by1 f (cb + pc) = 199) : stN S (Int32.toInt64 ((nI pc) + (s16 (by2 f (cb + pc + 1))))) = thN f cb S pc x x.2.2.2.2.2.1 0 := by
  have hl : lcO (by1 f (cb + pc)) = 0 := if_neg (by omega)
  have hx := in_op h (by omega) (y := (by1 f (cb + pc), 0, 0, 0, 1, some (s16 (by2 f (cb + pc + 1))))) (by unfold opC; rw [if_neg (by omega), if_neg (by omega), if_neg (by omega), if_pos ho])
  subst hx
  exact th_1 (j16_val hpc)
theorem th_G {x : IC} (hpc : pc < 65540) (h : inC f cb L pc = some x) (ho : by1 f (cb + pc) = 200 ∨ by1 f (cb + pc) = 201) : stN S ((nL pc) + (Int32.toInt64 (nI (by4 f (cb + pc + 1))))) = thN f cb S pc x x.2.2.2.2.2.1 0 := by
  have hv : ((nL pc) + (Int32.toInt64 (nI (by4 f (cb + pc + 1))))).toInt = (pc : Int) + (nI (by4 f (cb + pc + 1))).toInt := an_val (by omega) (i2l_val _) (by have h9 := i32_bd (nI (by4 f (cb + pc + 1))); omega)
  rcases ho with ho | ho
  · have hx := in_op h (by omega) (y := (167, 0, 0, 0, 1, some (nI (by4 f (cb + pc + 1))))) (by rw [ho]; rfl)
    subst hx
    exact th_1 hv
  · have hx := in_op h (by omega) (y := (168, 0, 0, 0, 1, some (nI (by4 f (cb + pc + 1))))) (by rw [ho]; rfl)
    subst hx
    exact th_1 hv
theorem sw_t {x : Nat × Int32 × Int32 × Nat} (hL : L < 65536) (h : swS f cb L pc 170 = some x) : ∃ nu : Nat, nuI (by4 f (cb + pdN pc + 4)) (by4 f (cb + pdN pc + 8)) = (nu : Int) ∧ x.2.2.2 = nu + 1 ∧ nu < 65535 ∧ pdN pc + 12 ≤ L ∧ ∀ i, i < nu + 1 → cb + waN 170 (pdN pc) i + 4 ≤ cb + L := by
  unfold swS at h
  split at h
  · cases h
  · rw [if_pos rfl] at h
    unfold tbS at h
    split at h
    · cases h
    · split at h
      · cases h
      · rename_i h1 h2
        cases h
        obtain ⟨nu, hnu⟩ : ∃ nu : Nat, (nu : Int) = nuI (by4 f (cb + (pdN pc + 4))) (by4 f (cb + (pdN pc + 8))) := ⟨(nuI (by4 f (cb + (pdN pc + 4))) (by4 f (cb + (pdN pc + 8)))).toNat, by omega⟩
        refine ⟨nu, hnu.symm, ?_, by omega, by omega, fun i hi => ?_⟩
        · dsimp only
          rw [← hnu]
          rfl
        · unfold waN
          rw [if_pos rfl]
          split <;> omega
theorem sw_k {x : Nat × Int32 × Int32 × Nat} (hL : L < 65536) (h : swS f cb L pc 171 = some x) : x.2.2.2 = by4 f (cb + pdN pc + 4) + 1 ∧ by4 f (cb + pdN pc + 4) < 65535 ∧ pdN pc + 8 ≤ L ∧ ∀ i, i < by4 f (cb + pdN pc + 4) + 1 → cb + waN 171 (pdN pc) i + 4 ≤ cb + L := by
  unfold swS at h
  split at h
  · cases h
  · rw [if_neg (by decide)] at h
    unfold lkS at h
    split at h
    · cases h
    · split at h
      · cases h
      · split at h
        · cases h
        · rename_i h1 h2 h3
          cases h
          obtain ⟨np, hnp⟩ : ∃ np, np = by4 f (cb + (pdN pc + 4)) := ⟨_, rfl⟩
          rw [← hnp] at h2
          have e : by4 f (cb + pdN pc + 4) = np := hnp.symm
          rw [e]
          refine ⟨by rw [hnp], by omega, by omega, fun i hi => ?_⟩
          unfold waN
          split
          · omega
          · rw [if_neg (by decide)]
            omega
theorem td_wa {o i : Nat} {a b c : Nat} {s1 s2 : Int32} {x1 : Option Int32} : tgI f cb pc (o, a, s1, s2, b, c, x1, some (pdN pc)) i = (pc : Int) + (nI (by4 f (cb + waN o (pdN pc) i))).toInt := by
  unfold tgI tdI waN
  dsimp only
  split
  · rfl
  · split
    · rfl
    · rfl
/-- one more place in both rows -/
theorem WH.nil {I : rI} {R : rR} : WH [] 0 I R := fun j hj => absurd hj (Nat.not_lt_zero _)
theorem WH.one {k : Nat} {I I' : rI} {R R' : rR} (h : WH [] k I R) (hR : R' = rset R 81 k (-1)) : WH [] (k + 1) I' R' := fun j hj => by
  subst hR
  by_cases e : j = k
  · subst e
    rw [rset_at]
    rfl
  · rw [rset_el e]
    exact h j (by omega)
theorem WH.snoc {p : Nat} {I I' : rI} {R R' : rR} (h : WH S L I R) (hR : R' = rset R 81 p (nI S.length)) (hp : p ∉ S) (hl : S.length < 65536) : WH (S ++ [p]) L I' R' := fun j hj => by
  subst hR
  rw [nuA_snoc hp]
  by_cases e : j = p
  · subst e
    rw [rset_at, if_pos rfl, nI_sub1 (p := S.length + 1) (k := 1) (x := 1) rfl (by omega) (by omega)]
    rfl
  · rw [rset_el e, if_neg e]
    exact h j hj
theorem BG.snoc {p : Nat} {I I' : rI} {R R' : rR} (h : BG S I R) (hR : R' = rset R 80 S.length (nI p)) : BG (S ++ [p]) I' R' := fun k hk => by
  subst hR
  rw [List.length_append, List.length_cons, List.length_nil] at hk
  by_cases e : k = S.length
  · subst e
    rw [rset_at]
    simp [List.getD_eq_getElem?_getD]
  · rw [rset_el e, h k (by omega)]
    simp [List.getD_eq_getElem?_getD, List.getElem?_append_left (show k < S.length by omega)]
theorem fb_at {k : Nat} {x : IC} (hk : k < S.length) (hx : inC f cb L (S.getD k 0) = some x) : fbS f cb L S (S.drop k) = if thN f cb S (S.getD k 0) x x.2.2.2.2.2.1 0 = 0 then some (S.getD k 0) else fbS f cb L S (S.drop (k + 1)) := by
  have e : S.getD k 0 = S[k] := by rw [List.getD_eq_getElem?_getD, List.getElem?_eq_getElem hk]; rfl
  rw [List.drop_eq_getElem_cons hk, ← e]
  rw [fbS, hx]
theorem cut_l {p : Nat} (h : cuS f n E mj cb L ml L 0 [] = .inl p) : cutS f n E mj cb L ml = .inl p := by
  unfold cutS
  rw [h]
theorem cut_b {p : Nat} (h : cuS f n E mj cb L ml L 0 [] = .inr S) (h2 : fbS f cb L S S = some p) : cutS f n E mj cb L ml = .inl p := by
  unfold cutS
  rw [h]
  dsimp only
  rw [h2]
theorem cut_r (h : cuS f n E mj cb L ml L 0 [] = .inr S) (h2 : fbS f cb L S S = none) : cutS f n E mj cb L ml = .inr S := by
  unfold cutS
  rw [h]
  dsimp only
  rw [h2]
theorem va_in (h : ¬ vaN f n E mj cb L ml pc = 0) : ∃ x, inC f cb L pc = some x := by
  unfold vaN at h
  cases hx : inC f cb L pc with
  | none => rw [hx] at h; exact absurd rfl h
  | some x => exact ⟨x, rfl⟩
end CZB
set_option maxHeartbeats 2000000 in
theorem rd_operands7 {g : xe_G} {m0 : Nat} {q : Nat → Nat} {z : Nat × Nat} {I : rI} {R : rR} {M : mi_H} {n : Nat} {f : Nat → Int32} {tx : List (List Nat)} {cN : Nat} {A : Nat → Nat} {N mj : Nat} {E : List (Nat × Nat)} {cb ml s9 pc : Nat} {L op : Nat} (hR : RS g m0 q z I R M) (hi51 : I 51 = some 0) (hi52 : I 52 = some (nI N)) (hi53 : I 53 = some (nI mj)) (hi77 : I 77 = some (nI cb)) (hi79 : I 79 = some (nI ml)) (hi9 : I 9 = some (nI s9)) (hF : FK n f I R) (hY : SYT tx cN A I R) (hP : RPV f n E tx N I R) (hEP : EP f n E) (hN : N < 65536) (hmj : mj < 65536) (hml : ml < 65536) (hs9 : s9 < tx.length ∧ tx.getD s9 [] = ltx 14) (hCP : CP f n E) (hPF : PF f n E) (hcl : cb + L + 4 ≤ n) (hpl : pc < L) (ho : op ≤ 201 ∧ ¬ (op = 170 ∨ op = 171 ∨ op = 196)) (hz : pc + szO op ≤ L) : pt (mT g) 228 [.ref m0, .int (nI pc), .int (nI op)] M (fun v M' => (v = some (.int (nI (orN f n E mj cb ml pc op))) ∧ M = M')) := by
  by_cases e168 : op = 168
  · subst e168
    rw [or_168]
    exact rd_op168 hR hi51 hi52 hi53 hi77 hi79 hi9 hF hY hP hEP hN hmj hml hs9 hCP hPF (by have hz9 : szO 168 = 3 := rfl; omega)
  by_cases e201 : op = 201
  · subst e201
    rw [or_201]
    exact rd_op201 hR hi51 hi52 hi53 hi77 hi79 hi9 hF hY hP hEP hN hmj hml hs9 hCP hPF (by have hz9 : szO 201 = 5 := rfl; omega)
  by_cases e169 : op = 169
  · subst e169
    rw [or_169]
    exact rd_op169 hR hi51 hi52 hi53 hi77 hi79 hi9 hF hY hP hEP hN hmj hml hs9 hCP hPF (by have hz9 : szO 169 = 2 := rfl; omega)
  by_cases e132 : op = 132
  · subst e132
    rw [or_132]
    exact rd_op132 hR hi51 hi52 hi53 hi77 hi79 hi9 hF hY hP hEP hN hmj hml hs9 hCP hPF (by have hz9 : szO 132 = 3 := rfl; omega)
  by_cases e188 : op = 188
  · subst e188
    rw [or_188]
    exact rd_op188 hR hi51 hi52 hi53 hi77 hi79 hi9 hF hY hP hEP hN hmj hml hs9 hCP hPF (by have hz9 : szO 188 = 2 := rfl; omega)
  by_cases e18 : op = 18
  · subst e18
    rw [or_18]
    exact rd_op18 hR hi51 hi52 hi53 hi77 hi79 hi9 hF hY hP hEP hN hmj hml hs9 hCP hPF (by have hz9 : szO 18 = 2 := rfl; omega)
  by_cases e19 : op = 19
  · subst e19
    rw [or_19]
    exact rd_op19 hR hi51 hi52 hi53 hi77 hi79 hi9 hF hY hP hEP hN hmj hml hs9 hCP hPF (by have hz9 : szO 19 = 3 := rfl; omega)
  by_cases e20 : op = 20
  · subst e20
    rw [or_20]
    exact rd_op20 hR hi51 hi52 hi53 hi77 hi79 hi9 hF hY hP hEP hN hmj hml hs9 hCP hPF (by have hz9 : szO 20 = 3 := rfl; omega)
  by_cases e182 : op = 182
  · subst e182
    rw [or_182]
    exact rd_op182 hR hi51 hi52 hi53 hi77 hi79 hi9 hF hY hP hEP hN hmj hml hs9 hCP hPF (by have hz9 : szO 182 = 3 := rfl; omega)
  by_cases e183 : op = 183
  · subst e183
    rw [or_183]
    exact rd_op183 hR hi51 hi52 hi53 hi77 hi79 hi9 hF hY hP hEP hN hmj hml hs9 hCP hPF (by have hz9 : szO 183 = 3 := rfl; omega)
  by_cases e184 : op = 184
  · subst e184
    rw [or_184]
    exact rd_op184 hR hi51 hi52 hi53 hi77 hi79 hi9 hF hY hP hEP hN hmj hml hs9 hCP hPF (by have hz9 : szO 184 = 3 := rfl; omega)
  by_cases e185 : op = 185
  · subst e185
    rw [or_185]
    exact rd_op185 hR hi51 hi52 hi53 hi77 hi79 hi9 hF hY hP hEP hN hmj hml hs9 hCP hPF (by have hz9 : szO 185 = 5 := rfl; omega)
  by_cases e186 : op = 186
  · subst e186
    rw [or_186]
    exact rd_op186 hR hi51 hi52 hi53 hi77 hi79 hi9 hF hY hP hEP hN hmj hml hs9 hCP hPF (by have hz9 : szO 186 = 5 := rfl; omega)
  by_cases e187 : op = 187
  · subst e187
    rw [or_187]
    exact rd_op187 hR hi51 hi52 hi53 hi77 hi79 hi9 hF hY hP hEP hN hmj hml hs9 hCP hPF (by have hz9 : szO 187 = 3 := rfl; omega)
  by_cases e189 : op = 189
  · subst e189
    rw [or_189]
    exact rd_op189 hR hi51 hi52 hi53 hi77 hi79 hi9 hF hY hP hEP hN hmj hml hs9 hCP hPF (by have hz9 : szO 189 = 3 := rfl; omega)
  by_cases e192 : op = 192
  · subst e192
    rw [or_192]
    exact rd_op192 hR hi51 hi52 hi53 hi77 hi79 hi9 hF hY hP hEP hN hmj hml hs9 hCP hPF (by have hz9 : szO 192 = 3 := rfl; omega)
  by_cases e193 : op = 193
  · subst e193
    rw [or_193]
    exact rd_op193 hR hi51 hi52 hi53 hi77 hi79 hi9 hF hY hP hEP hN hmj hml hs9 hCP hPF (by have hz9 : szO 193 = 3 := rfl; omega)
  by_cases e197 : op = 197
  · subst e197
    rw [or_197]
    exact rd_op197 hR hi51 hi52 hi53 hi77 hi79 hi9 hF hY hP hEP hN hmj hml hs9 hCP hPF (by have hz9 : szO 197 = 4 := rfl; omega)
  by_cases eL : (21 ≤ op ∧ op ≤ 25) ∨ (54 ≤ op ∧ op ≤ 58)
  · rw [or_L eL]
    exact rd_opL hR hi51 hi52 hi53 hi77 hi79 hi9 hF hY hP hEP hN hmj hml hs9 hCP hPF (by have hz9 := szO_1 op; have hz8 : szO op = 2 := lcO_sz (by unfold lcO; rw [if_pos (by omega)]; decide); omega) eL
  by_cases eS1 : 26 ≤ op ∧ op ≤ 45
  · rw [or_S1 eS1]
    exact rd_opS1 hR hi51 hi52 hi53 hi77 hi79 hi9 hF hY hP hEP hN hmj hml hs9 hCP hPF (by have hz9 := szO_1 op; omega) eS1
  by_cases eS2 : 59 ≤ op ∧ op ≤ 78
  · rw [or_S2 eS2]
    exact rd_opS2 hR hi51 hi52 hi53 hi77 hi79 hi9 hF hY hP hEP hN hmj hml hs9 hCP hPF (by have hz9 := szO_1 op; omega) eS2
  by_cases e178 : 178 ≤ op ∧ op ≤ 181
  · rw [or_178 e178]
    exact rd_op178 hR hi51 hi52 hi53 hi77 hi79 hi9 hF hY hP hEP hN hmj hml hs9 hCP hPF (by have hz9 := szO_1 op; have hz8 : szO op = 3 := (by unfold szO; rw [if_pos (by omega)]); omega) e178
  rw [or_1 (by omega)]
  exact rd_op1 hR hi51 hi52 hi53 hi77 hi79 hi9 hF hY hP hEP hN hmj hml hs9 hCP hPF (by have hz9 := szO_1 op; omega) (by omega)
theorem rd_aims7 {g : xe_G} {m0 : Nat} {q : Nat → Nat} {z : Nat × Nat} {I : rI} {R : rR} {M : mi_H} {n : Nat} {f : Nat → Int32} {cb : Nat} {L pc : Nat} {S : List Nat} {x : IC} (hR : RS g m0 q z I R M) (hi77 : I 77 = some (nI cb)) (hi78 : I 78 = some (nI L)) (hF : FK n f I R) (hW : WH S L I R) (hcl : cb + L + 4 ≤ n) (hpl : pc < L) (hL : L < 65536) (hSl : S.length < 65536) (hSL : ∀ p ∈ S, p < L) (hx : inC f cb L pc = some x) : pt (mT g) 174 [.ref m0, .int (nI pc)] M (fun v M' => (v = some (.int (nI (thN f cb S pc x x.2.2.2.2.2.1 0))) ∧ M = M')) := by
  have hn := hF.1
  have hb := by1_lt f (cb + pc)
  by_cases h1 : (153 ≤ by1 f (cb + pc) ∧ by1 f (cb + pc) ≤ 168) ∨ by1 f (cb + pc) = 198 ∨ by1 f (cb + pc) = 199
  · rw [← th_J (by omega) hx h1]
    exact rd_aimsJ hR hi77 hi78 hF hW hcl hpl hL hSl hSL rfl h1
  · by_cases h2 : by1 f (cb + pc) = 200 ∨ by1 f (cb + pc) = 201
    · rw [← th_G (by omega) hx h2]
      exact rd_aimsG hR hi77 hi78 hF hW hcl hpl hL hSl hSL rfl h2
    · by_cases h3 : by1 f (cb + pc) = 170 ∨ by1 f (cb + pc) = 171
      · obtain ⟨-, -, hs, -⟩ := in_in hx
        obtain ⟨o, sz, fi, se, lp, tc, of, sw⟩ := x
        dsimp only at hs
        rcases hs with ⟨a1, a2, a3⟩ | ⟨a1, a2, a3, a4⟩
        · exfalso
          have a4 := in_sws hx h3
          dsimp only at a4
          rw [a4] at a1
          cases a1
        · subst a1
          rcases a2 with rfl | rfl
          · obtain ⟨nu, b1, b2, b3, b4, b5⟩ := sw_t hL a4
            dsimp only at b2
            subst b2
            have e := thG_cg (S := S) (T := fun i => tgI f cb pc (170, sz, fi, se, lp, nu + 1, of, some (pdN pc)) i) (T' := fun i => (pc : Int) + (nI (by4 f (cb + waN 170 (pdN pc) i))).toInt) (nu + 1) 0 (fun j => td_wa)
            exact (rd_aimsT hR hi77 hi78 hF hW hcl hpl hL hSl hSL a3.symm b1 b3 (by omega) b4 (fun i hi => by have := b5 i hi; omega)).mono (fun v M' h => ⟨h.1.trans (congrArg (fun x => some (Value.int (nI x))) e.symm), h.2⟩)
          · obtain ⟨b2, b3, b4, b5⟩ := sw_k hL a4
            dsimp only at b2
            subst b2
            have e := thG_cg (S := S) (T := fun i => tgI f cb pc (171, sz, fi, se, lp, by4 f (cb + pdN pc + 4) + 1, of, some (pdN pc)) i) (T' := fun i => (pc : Int) + (nI (by4 f (cb + waN 171 (pdN pc) i))).toInt) (by4 f (cb + pdN pc + 4) + 1) 0 (fun j => td_wa)
            exact (rd_aimsK hR hi77 hi78 hF hW hcl hpl hL hSl hSL a3.symm b3 b4 (fun i hi => by have := b5 i hi; omega)).mono (fun v M' h => ⟨h.1.trans (congrArg (fun x => some (Value.int (nI x))) e.symm), h.2⟩)
      · rw [in_tc hx (by omega)]
        exact rd_aims0 hR hi77 hi78 hF hW hcl hpl hL hSl hSL rfl (by omega)
set_option maxHeartbeats 4000000 in
theorem rd_cutsN {g : xe_G} {m0 : Nat} {q : Nat → Nat} {z : Nat × Nat} {I : rI} {R : rR} {M : mi_H} {n : Nat} {f : Nat → Int32} {tx : List (List Nat)} {cN : Nat} {A : Nat → Nat} {N mj : Nat} {E : List (Nat × Nat)} {cb L ml s9 m : Nat} {co : Int32} (hR : RS g m0 q z I R M) (hi51 : I 51 = some 0) (hi52 : I 52 = some (nI N)) (hi53 : I 53 = some (nI mj)) (hi9 : I 9 = some (nI s9)) (hi74 : I 74 = some co) (hF : FK n f I R) (hY : SYT tx cN A I R) (hP : RPV f n E tx N I R) (hEP : EP f n E) (hN : N < 65536) (hmj : mj < 65536) (hml : ml < 65536) (hs9 : s9 < tx.length ∧ tx.getD s9 [] = ltx 14) (hCP : CP f n E) (hPF : PF f n E) (hcl : cb + L + 4 ≤ n) (hL : 1 ≤ L ∧ L < 65536) (hm : m < 65536) (h37 : R 37 m = some (nI cb)) (h38 : R 38 m = some (nI L)) (h40 : R 40 m = some (nI ml)) (hne : ¬ co = nI m) : pt (mT g) 200 [.ref m0, .int (nI m)] M (fun v M' => (∃ (p : Nat) (I' : rI) (R' : rR), (cutS f n E mj cb L ml = .inl p) ∧ (p < 65536) ∧ v = some (.int 0) ∧ RS g m0 q z I' R' M' ∧ eqI [74, 75, 76, 77, 78, 79] I I' ∧ eqR [80, 81] R R' ∧ I' 74 = some (nI m) ∧ I' 77 = some (nI cb) ∧ I' 78 = some (nI L) ∧ I' 79 = some (nI ml) ∧ I' 76 = some (nI p)) ∨ (∃ (S : List Nat) (I' : rI) (R' : rR), (cutS f n E mj cb L ml = .inr S) ∧ (S.length ≤ L ∧ ∀ p ∈ S, p < L ∧ ¬ vaN f n E mj cb L ml p = 0) ∧ v = some (.int 1) ∧ RS g m0 q z I' R' M' ∧ eqI [74, 75, 76, 77, 78, 79] I I' ∧ eqR [80, 81] R R' ∧ I' 74 = some (nI m) ∧ I' 77 = some (nI cb) ∧ I' 78 = some (nI L) ∧ I' 79 = some (nI ml) ∧ I' 75 = some (nI S.length) ∧ I' 76 = some (-1) ∧ WH S L I' R' ∧ BG S I' R')) := by
  refine pt_in (b := mb_200 g) rfl (fun kf => ?_)
  show pl (mT g) kf (mb_200 g).2 (0, [(0, .ref m0), (1, .int (nI m))], [], M) _
  have hEI : eqI [74, 75, 76, 77, 78, 79] I I := eqI.rf
  have hER : eqR [80, 81] R R := eqR.rf
  have hn := hF.1
  have LL : ∀ (kf : Nat), (∀ (k : Nat) (M1 : mi_H) (I1 : rI) (R1 : rR), (RS g m0 q z I1 R1 M1) → (eqI [74, 75, 76, 77, 78, 79] I I1) → (eqR [80, 81] R R1) → (I1 51 = some 0) → (I1 52 = some (nI N)) → (I1 53 = some (nI mj)) → (I1 9 = some (nI s9)) → (I1 74 = some (nI m)) → (I1 77 = some (nI cb)) → (I1 78 = some (nI L)) → (I1 79 = some (nI ml)) → (I1 75 = some 0) → (I1 76 = some (-1)) → (FK n f I1 R1) → (SYT tx cN A I1 R1) → (RPV f n E tx N I1 R1) → (WH [] k I1 R1) → (k ≤ L) →  pl (mT g) kf (mb_200 g).2 (68, [(0, .ref m0), (2, .int (nI k))], [], M1) (fun v M' => (∃ (p : Nat) (I' : rI) (R' : rR), (cutS f n E mj cb L ml = .inl p) ∧ (p < 65536) ∧ v = some (.int 0) ∧ RS g m0 q z I' R' M' ∧ eqI [74, 75, 76, 77, 78, 79] I I' ∧ eqR [80, 81] R R' ∧ I' 74 = some (nI m) ∧ I' 77 = some (nI cb) ∧ I' 78 = some (nI L) ∧ I' 79 = some (nI ml) ∧ I' 76 = some (nI p)) ∨ (∃ (S : List Nat) (I' : rI) (R' : rR), (cutS f n E mj cb L ml = .inr S) ∧ (S.length ≤ L ∧ ∀ p ∈ S, p < L ∧ ¬ vaN f n E mj cb L ml p = 0) ∧ v = some (.int 1) ∧ RS g m0 q z I' R' M' ∧ eqI [74, 75, 76, 77, 78, 79] I I' ∧ eqR [80, 81] R R' ∧ I' 74 = some (nI m) ∧ I' 77 = some (nI cb) ∧ I' 78 = some (nI L) ∧ I' 79 = some (nI ml) ∧ I' 75 = some (nI S.length) ∧ I' 76 = some (-1) ∧ WH S L I' R' ∧ BG S I' R'))) ∧ (∀ (pc : Nat) (S : List Nat) (wc : Int32) (M1 : mi_H) (I1 : rI) (R1 : rR), (RS g m0 q z I1 R1 M1) → (eqI [74, 75, 76, 77, 78, 79] I I1) → (eqR [80, 81] R R1) → (I1 51 = some 0) → (I1 52 = some (nI N)) → (I1 53 = some (nI mj)) → (I1 9 = some (nI s9)) → (I1 74 = some (nI m)) → (I1 77 = some (nI cb)) → (I1 78 = some (nI L)) → (I1 79 = some (nI ml)) → (I1 75 = some (nI S.length)) → (I1 76 = some wc) → (FK n f I1 R1) → (SYT tx cN A I1 R1) → (RPV f n E tx N I1 R1) → (WH S L I1 R1) → (BG S I1 R1) → (S.length ≤ pc ∧ pc ≤ L) → (∀ p ∈ S, p < pc ∧ ¬ vaN f n E mj cb L ml p = 0) → ((wc = -1 ∧ cuS f n E mj cb L ml (L - S.length) pc S = cuS f n E mj cb L ml L 0 []) ∨ ∃ p, p < 65536 ∧ wc = nI p ∧ cuS f n E mj cb L ml L 0 [] = .inl p) →  pl (mT g) kf (mb_200 g).2 (91, [(0, .ref m0), (2, .int (nI pc))], [], M1) (fun v M' => (∃ (p : Nat) (I' : rI) (R' : rR), (cutS f n E mj cb L ml = .inl p) ∧ (p < 65536) ∧ v = some (.int 0) ∧ RS g m0 q z I' R' M' ∧ eqI [74, 75, 76, 77, 78, 79] I I' ∧ eqR [80, 81] R R' ∧ I' 74 = some (nI m) ∧ I' 77 = some (nI cb) ∧ I' 78 = some (nI L) ∧ I' 79 = some (nI ml) ∧ I' 76 = some (nI p)) ∨ (∃ (S : List Nat) (I' : rI) (R' : rR), (cutS f n E mj cb L ml = .inr S) ∧ (S.length ≤ L ∧ ∀ p ∈ S, p < L ∧ ¬ vaN f n E mj cb L ml p = 0) ∧ v = some (.int 1) ∧ RS g m0 q z I' R' M' ∧ eqI [74, 75, 76, 77, 78, 79] I I' ∧ eqR [80, 81] R R' ∧ I' 74 = some (nI m) ∧ I' 77 = some (nI cb) ∧ I' 78 = some (nI L) ∧ I' 79 = some (nI ml) ∧ I' 75 = some (nI S.length) ∧ I' 76 = some (-1) ∧ WH S L I' R' ∧ BG S I' R'))) ∧ (∀ (k : Nat) (S : List Nat) (wc : Int32) (M1 : mi_H) (I1 : rI) (R1 : rR), (RS g m0 q z I1 R1 M1) → (eqI [74, 75, 76, 77, 78, 79] I I1) → (eqR [80, 81] R R1) → (I1 51 = some 0) → (I1 52 = some (nI N)) → (I1 53 = some (nI mj)) → (I1 9 = some (nI s9)) → (I1 74 = some (nI m)) → (I1 77 = some (nI cb)) → (I1 78 = some (nI L)) → (I1 79 = some (nI ml)) → (I1 75 = some (nI S.length)) → (I1 76 = some wc) → (FK n f I1 R1) → (SYT tx cN A I1 R1) → (RPV f n E tx N I1 R1) → (WH S L I1 R1) → (BG S I1 R1) → (k ≤ S.length) → (S.length ≤ L) → (∀ p ∈ S, p < L ∧ ¬ vaN f n E mj cb L ml p = 0) → ((∃ p, p < 65536 ∧ wc = nI p ∧ cutS f n E mj cb L ml = .inl p) ∨ (wc = -1 ∧ cuS f n E mj cb L ml L 0 [] = .inr S ∧ fbS f cb L S (S.drop k) = fbS f cb L S S)) →  pl (mT g) kf (mb_200 g).2 (235, [(0, .ref m0), (3, .int (nI k))], [], M1) (fun v M' => (∃ (p : Nat) (I' : rI) (R' : rR), (cutS f n E mj cb L ml = .inl p) ∧ (p < 65536) ∧ v = some (.int 0) ∧ RS g m0 q z I' R' M' ∧ eqI [74, 75, 76, 77, 78, 79] I I' ∧ eqR [80, 81] R R' ∧ I' 74 = some (nI m) ∧ I' 77 = some (nI cb) ∧ I' 78 = some (nI L) ∧ I' 79 = some (nI ml) ∧ I' 76 = some (nI p)) ∨ (∃ (S : List Nat) (I' : rI) (R' : rR), (cutS f n E mj cb L ml = .inr S) ∧ (S.length ≤ L ∧ ∀ p ∈ S, p < L ∧ ¬ vaN f n E mj cb L ml p = 0) ∧ v = some (.int 1) ∧ RS g m0 q z I' R' M' ∧ eqI [74, 75, 76, 77, 78, 79] I I' ∧ eqR [80, 81] R R' ∧ I' 74 = some (nI m) ∧ I' 77 = some (nI cb) ∧ I' 78 = some (nI L) ∧ I' 79 = some (nI ml) ∧ I' 75 = some (nI S.length) ∧ I' 76 = some (-1) ∧ WH S L I' R' ∧ BG S I' R'))) := by
    intro kf
    induction kf with
    | zero => exact ⟨by intros; exact pl_0, by intros; exact pl_0, by intros; exact pl_0⟩
    | succ kf ih =>
      refine ⟨?_, ?_, ?_⟩
      · skip
        intro k M1 I1 R1 hR1 hEI1 hER1 hl51 hl52 hl53 hl9 hl74 hl77 hl78 hl79 hl75 hl76 hF1 hY1 hP1 hW1 hk
        have hn := hF1.1
        refine ps_st1 (S' := (69, [(0, .ref m0), (2, .int (nI k))], [.int (nI k)], M1)) rfl rfl rfl ?_
        refine ps_st (S' := (70, [(0, .ref m0), (2, .int (nI k))], [.ref m0, .int (nI k)], M1)) rfl rfl rfl ?_
        refine pr_int (j := 78) (S' := (73, [(0, .ref m0), (2, .int (nI k))], [.int (nI L), .int (nI k)], M1)) rfl hR1 rfl hl78 rfl ?_
        refine ps_if2 (S1 := (89, [(0, .ref m0), (2, .int (nI k))], [], M1)) (S2 := (76, [(0, .ref m0), (2, .int (nI k))], [], M1)) rfl rfl rfl (fun c_73 => ?_) (fun c_73 => ?_)
        · have c_73 : (nI L) ≤ (nI k) := of_decide_eq_true c_73
          have n_73 : L ≤ k := (le_nI (p := L) (n := k) (by omega) (by omega)).mp c_73
          refine ps_st (S' := (90, [(0, .ref m0), (2, .int (nI k))], [.int 0], M1)) rfl rfl rfl ?_
          refine ps_st (S' := (91, [(0, .ref m0), (2, .int 0)], [], M1)) rfl rfl rfl ?_
          have hW9 := hW1
          rw [show k = L by omega] at hW9
          have hB0 : BG [] I1 R1 := fun k hk => absurd hk (Nat.not_lt_zero _)
          exact ih.2.1 (0) ([]) (-1) M1 I1 R1 hR1 hEI1 hER1 hl51 hl52 hl53 hl9 hl74 hl77 hl78 hl79 hl75 hl76 hF1 hY1 hP1 hW9 hB0 (by simp) (fun p hp => (by cases hp)) (Or.inl ⟨rfl, rfl⟩)
        · have c_73 : ¬ ((nI L) ≤ (nI k)) := of_decide_eq_false c_73
          have n_73 : ¬ (L ≤ k) := fun h9 => c_73 ((le_nI (p := L) (n := k) (by omega) (by omega)).mpr h9)
          refine ps_st (S' := (77, [(0, .ref m0), (2, .int (nI k))], [.ref m0], M1)) rfl rfl rfl ?_
          refine pr_ref (j := 81) (S' := (80, [(0, .ref m0), (2, .int (nI k))], [.ref (q 81)], M1)) rfl hR1 rfl rfl ?_
          refine ps_st (S' := (81, [(0, .ref m0), (2, .int (nI k))], [.int (nI k), .ref (q 81)], M1)) rfl rfl rfl ?_
          refine ps_st (S' := (82, [(0, .ref m0), (2, .int (nI k))], [.int (-1), .int (nI k), .ref (q 81)], M1)) rfl rfl rfl ?_
          refine pr_st (a := 81) (j := k) rfl hR1 rfl (by omega) (fun M1 R2 i1_82 hR3 hS4 => ?_)
          have hF_5 := hF1.mono (fun _ _ => rfl) (rRx hS4 (by decide))
          have hY_6 := hY1.mono (fun _ _ => rfl) (rRx hS4 (by decide))
          have hP_7 := hP1.mono (fun _ _ => rfl) (rRx hS4 (by decide))
          have hER8 := hER1.st hS4 (by decide)
          show pl _ _ _ (83, [(0, .ref m0), (2, .int (nI k))], [], M1) _
          have hW_9 := WH.one (I' := I1) hW1 hS4
          refine ps_st (S' := (86, [(2, .int ((nI k) + 1)), (0, .ref m0)], [], M1)) rfl rfl rfl ?_
          rw [nI_add1 (p := k) (k := 1) (x := 1) rfl (by omega)]
          show pl _ _ _ (_, [(2, .int (nI (k + 1))), (0, .ref m0)], [], M1) _
          refine ps_st (S' := (68, [(0, .ref m0), (2, .int (nI (k + 1)))], [], M1)) rfl rfl rfl ?_
          exact ih.1 (k + 1) M1 I1 R2 hR3 hEI1 hER8 hl51 hl52 hl53 hl9 hl74 hl77 hl78 hl79 hl75 hl76 hF_5 hY_6 hP_7 hW_9 (by omega)
      · skip
        intro pc S wc M1 I1 R1 hR1 hEI1 hER1 hl51 hl52 hl53 hl9 hl74 hl77 hl78 hl79 hl75 hl76 hF1 hY1 hP1 hW1 hB1 hSp hlt hwc
        have hn := hF1.1
        refine ps_st1 (S' := (92, [(0, .ref m0), (2, .int (nI pc))], [.int (nI pc)], M1)) rfl rfl rfl ?_
        refine ps_st (S' := (93, [(0, .ref m0), (2, .int (nI pc))], [.ref m0, .int (nI pc)], M1)) rfl rfl rfl ?_
        refine pr_int (j := 78) (S' := (96, [(0, .ref m0), (2, .int (nI pc))], [.int (nI L), .int (nI pc)], M1)) rfl hR1 rfl hl78 rfl ?_
        refine ps_if2 (S1 := (233, [(0, .ref m0)], [], M1)) (S2 := (99, [(0, .ref m0), (2, .int (nI pc))], [], M1)) rfl rfl rfl (fun c_96 => ?_) (fun c_96 => ?_)
        · have c_96 : (nI L) ≤ (nI pc) := of_decide_eq_true c_96
          have n_96 : L ≤ pc := (le_nI (p := L) (n := pc) (by omega) (by omega)).mp c_96
          refine ps_st (S' := (234, [(0, .ref m0)], [.int 0], M1)) rfl rfl rfl ?_
          refine ps_st (S' := (235, [(0, .ref m0), (3, .int 0)], [], M1)) rfl rfl rfl ?_
          exact ih.2.2 (0) (S) (wc) M1 I1 R1 hR1 hEI1 hER1 hl51 hl52 hl53 hl9 hl74 hl77 hl78 hl79 hl75 hl76 hF1 hY1 hP1 hW1 hB1 (Nat.zero_le _) (by omega) (fun p hp => (by have := hlt p hp; exact ⟨by omega, this.2⟩)) (by
              rcases hwc with ⟨w1, w2⟩ | ⟨p, w1, w2, w3⟩
              exact Or.inr ⟨w1, by rw [← w2, cuS_end (by omega)], rfl⟩
              exact Or.inl ⟨p, w1, w2, cut_l w3⟩)
        · have c_96 : ¬ ((nI L) ≤ (nI pc)) := of_decide_eq_false c_96
          have n_96 : ¬ (L ≤ pc) := fun h9 => c_96 ((le_nI (p := L) (n := pc) (by omega) (by omega)).mpr h9)
          refine ps_st (S' := (100, [(0, .ref m0), (2, .int (nI pc))], [.ref m0], M1)) rfl rfl rfl ?_
          refine pr_int (j := 76) (S' := (103, [(0, .ref m0), (2, .int (nI pc))], [.int wc], M1)) rfl hR1 rfl hl76 rfl ?_
          refine ps_if (S1 := (233, [(0, .ref m0)], [], M1)) (S2 := (106, [(0, .ref m0), (2, .int (nI pc))], [], M1)) rfl rfl rfl (fun c_103 => ?_) (fun c_103 => ?_)
          · have c_103 : 0 ≤ wc := of_decide_eq_true c_103
            refine ps_st (S' := (234, [(0, .ref m0)], [.int 0], M1)) rfl rfl rfl ?_
            refine ps_st (S' := (235, [(0, .ref m0), (3, .int 0)], [], M1)) rfl rfl rfl ?_
            exact ih.2.2 (0) (S) (wc) M1 I1 R1 hR1 hEI1 hER1 hl51 hl52 hl53 hl9 hl74 hl77 hl78 hl79 hl75 hl76 hF1 hY1 hP1 hW1 hB1 (Nat.zero_le _) (by omega) (fun p hp => (by have := hlt p hp; exact ⟨by omega, this.2⟩)) (by
                rcases hwc with ⟨w1, w2⟩ | ⟨p, w1, w2, w3⟩
                rw [w1] at c_103; exact absurd c_103 (by decide)
                exact Or.inl ⟨p, w1, w2, cut_l w3⟩)
          · have c_103 : ¬ (0 ≤ wc) := of_decide_eq_false c_103
            obtain ⟨hwm, hcu⟩ := hwc.resolve_right (fun h9 => by obtain ⟨p, w1, w2, w3⟩ := h9; rw [w2] at c_103; exact c_103 (Int32.not_lt.mp (nI_n0 (by omega))))
            have hpc : pc < L := by omega
            refine ps_st (S' := (107, [(0, .ref m0), (2, .int (nI pc))], [.ref m0], M1)) rfl rfl rfl ?_
            refine ps_st (S' := (108, [(0, .ref m0), (2, .int (nI pc))], [.int (nI pc), .ref m0], M1)) rfl rfl rfl ?_
            refine pl_call (a := [.ref m0, .int (nI pc)]) (rest := []) rfl rfl rfl (rd_b1 (n := n) (f := f) (cb := cb) (p := pc) hR1 hl77 hF1 (by omega)) (fun v10 M11 q12 => ?_)
            obtain ⟨rfl, rfl⟩ := q12
            show pl _ _ _ (111, [(0, .ref m0), (2, .int (nI pc))], [.int (nI (by1 f (cb + pc)))], M1) _
            show pl _ _ _ (_, [(0, .ref m0), (2, .int (nI pc))], [.int (nI (by1 f (cb + pc)))], M1) _
            have hb_108 := by1_lt f (cb + pc)
            refine ps_st (S' := (112, [(3, .int (nI (by1 f (cb + pc)))), (0, .ref m0), (2, .int (nI pc))], [], M1)) rfl rfl rfl ?_
            refine ps_st (S' := (113, [(3, .int (nI (by1 f (cb + pc)))), (0, .ref m0), (2, .int (nI pc))], [.int (nI (by1 f (cb + pc)))], M1)) rfl rfl rfl ?_
            refine ps_st (S' := (116, [(3, .int (nI (by1 f (cb + pc)))), (0, .ref m0), (2, .int (nI pc))], [.int 201, .int (nI (by1 f (cb + pc)))], M1)) rfl rfl rfl ?_
            refine ps_if2 (S1 := (123, [(3, .int (nI (by1 f (cb + pc)))), (0, .ref m0), (2, .int (nI pc))], [], M1)) (S2 := (119, [(3, .int (nI (by1 f (cb + pc)))), (0, .ref m0), (2, .int (nI pc))], [], M1)) rfl rfl rfl (fun c_116 => ?_) (fun c_116 => ?_)
            · have c_116 : (nI (by1 f (cb + pc))) ≤ 201 := of_decide_eq_true c_116
              have n_116 : by1 f (cb + pc) ≤ 201 := (le_nI (p := by1 f (cb + pc)) (n := 201) (Nat.lt_trans (by1_lt _ _) (by decide)) (by decide)).mp c_116
              refine ps_st (S' := (124, [(3, .int (nI (by1 f (cb + pc)))), (0, .ref m0), (2, .int (nI pc))], [.int (nI (by1 f (cb + pc)))], M1)) rfl rfl rfl ?_
              refine ps_st (S' := (127, [(3, .int (nI (by1 f (cb + pc)))), (0, .ref m0), (2, .int (nI pc))], [.int 170, .int (nI (by1 f (cb + pc)))], M1)) rfl rfl rfl ?_
              refine ps_if2 (S1 := (144, [(0, .ref m0), (2, .int (nI pc)), (3, .int (nI (by1 f (cb + pc))))], [], M1)) (S2 := (130, [(3, .int (nI (by1 f (cb + pc)))), (0, .ref m0), (2, .int (nI pc))], [], M1)) rfl rfl rfl (fun c_127 => ?_) (fun c_127 => ?_)
              · have c_127 : (nI (by1 f (cb + pc))) = 170 := of_decide_eq_true c_127
                have n_127 : by1 f (cb + pc) = 170 := (eq_nI (p := by1 f (cb + pc)) (n := 170) (Nat.lt_trans (by1_lt _ _) (by decide)) (by decide)).mp c_127
                rw [n_127]
                show pl _ _ _ (144, [(0, .ref m0), (2, .int (nI pc)), (3, .int (nI 170))], [], M1) _
                refine ps_st (S' := (145, [(0, .ref m0), (2, .int (nI pc)), (3, .int (nI 170))], [.ref m0], M1)) rfl rfl rfl ?_
                refine ps_st (S' := (146, [(0, .ref m0), (2, .int (nI pc)), (3, .int (nI 170))], [.int (nI pc), .ref m0], M1)) rfl rfl rfl ?_
                refine ps_st (S' := (147, [(0, .ref m0), (2, .int (nI pc)), (3, .int (nI 170))], [.int (nI 170), .int (nI pc), .ref m0], M1)) rfl rfl rfl ?_
                refine pl_call (a := [.ref m0, .int (nI pc), .int (nI 170)]) (rest := []) rfl rfl rfl (rd_formedT (n := n) (f := f) (cb := cb) (L := L) (pc := pc) hR1 hl77 hl78 hF1 (hcl) (hpc)) (fun v13 M14 q15 => ?_)
                rcases q15 with q15 | q15
                · skip
                  obtain ⟨x16, q147_s, rfl, rfl⟩ := q15
                  show pl _ _ _ (150, [(0, .ref m0), (2, .int (nI pc)), (3, .int (nI 170))], [.int (nI x16.1)], M1) _
                  have hz9 := va_sw (n := n) (E := E) (mj := mj) (ml := ml) hpc n_127 (by decide) q147_s
                  refine ps_st (S' := (163, [(0, .ref m0), (2, .int (nI pc)), (3, .int (nI 170))], [.int (nI x16.1)], M1)) rfl rfl rfl ?_
                  refine ps_st (S' := (165, [(4, .int (nI x16.1)), (0, .ref m0), (2, .int (nI pc)), (3, .int (nI 170))], [], M1)) rfl rfl rfl ?_
                  refine ps_st (S' := (167, [(4, .int (nI x16.1)), (0, .ref m0), (2, .int (nI pc)), (3, .int (nI 170))], [.int (nI x16.1)], M1)) rfl rfl rfl ?_
                  refine ps_if (S1 := (190, [(0, .ref m0), (2, .int (nI pc))], [], M1)) (S2 := (170, [(4, .int (nI x16.1)), (0, .ref m0), (2, .int (nI pc)), (3, .int (nI 170))], [], M1)) rfl rfl rfl (fun c_167 => ?_) (fun c_167 => ?_)
                  · exact absurd (of_decide_eq_true c_167) (nI_n0 (by omega))
                  refine ps_st (S' := (171, [(4, .int (nI x16.1)), (0, .ref m0), (2, .int (nI pc)), (3, .int (nI 170))], [.int (nI pc)], M1)) rfl rfl rfl ?_
                  refine ps_st (S' := (173, [(4, .int (nI x16.1)), (0, .ref m0), (2, .int (nI pc)), (3, .int (nI 170))], [.int (nI x16.1), .int (nI pc)], M1)) rfl rfl rfl ?_
                  refine ps_st (S' := (174, [(4, .int (nI x16.1)), (0, .ref m0), (2, .int (nI pc)), (3, .int (nI 170))], [.int ((nI pc) + (nI x16.1))], M1)) rfl rfl rfl ?_
                  rw [nI_add1 (p := pc) (k := x16.1) (x := (nI x16.1)) rfl (by omega)]
                  show pl _ _ _ (_, [(4, .int (nI x16.1)), (0, .ref m0), (2, .int (nI pc)), (3, .int (nI 170))], [.int (nI (pc + x16.1))], M1) _
                  refine ps_st (S' := (175, [(4, .int (nI x16.1)), (0, .ref m0), (2, .int (nI pc)), (3, .int (nI 170))], [.ref m0, .int (nI (pc + x16.1))], M1)) rfl rfl rfl ?_
                  refine pr_int (j := 78) (S' := (178, [(4, .int (nI x16.1)), (0, .ref m0), (2, .int (nI pc)), (3, .int (nI 170))], [.int (nI L), .int (nI (pc + x16.1))], M1)) rfl hR1 rfl hl78 rfl ?_
                  refine ps_if2 (S1 := (190, [(0, .ref m0), (2, .int (nI pc))], [], M1)) (S2 := (181, [(4, .int (nI x16.1)), (0, .ref m0), (2, .int (nI pc)), (3, .int (nI 170))], [], M1)) rfl rfl rfl (fun c_178 => ?_) (fun c_178 => ?_)
                  · have c_178 : (nI L) < (nI (pc + x16.1)) := of_decide_eq_true c_178
                    have n_178 : L < pc + x16.1 := (lt_nI (p := L) (n := pc + x16.1) (by omega) (by omega)).mp c_178
                    refine ps_st (S' := (191, [(0, .ref m0), (2, .int (nI pc))], [.ref m0], M1)) rfl rfl rfl ?_
                    refine ps_st (S' := (192, [(0, .ref m0), (2, .int (nI pc))], [.int (nI pc), .ref m0], M1)) rfl rfl rfl ?_
                    refine pr_put (j := 76) rfl hR1 rfl (fun M17 I18 hR19 hi20 hI21 => ?_)
                    have hi22 := (hI21 51 (by decide)).trans hl51
                    have hi23 := (hI21 52 (by decide)).trans hl52
                    have hi24 := (hI21 53 (by decide)).trans hl53
                    have hi25 := (hI21 9 (by decide)).trans hl9
                    have hi26 := (hI21 74 (by decide)).trans hl74
                    have hi27 := (hI21 77 (by decide)).trans hl77
                    have hi28 := (hI21 78 (by decide)).trans hl78
                    have hi29 := (hI21 79 (by decide)).trans hl79
                    have hi30 := (hI21 75 (by decide)).trans hl75
                    have hF_31 := hF1.mono (pIx hI21 (by decide)) (fun _ _ => rfl)
                    have hY_32 := hY1.mono (pIx hI21 (by decide)) (fun _ _ => rfl)
                    have hP_33 := hP1.mono (pIx hI21 (by decide)) (fun _ _ => rfl)
                    have hW_34 := hW1.mono (pIx hI21 (by decide)) (fun _ _ => rfl)
                    have hB_35 := hB1.mono (pIx hI21 (by decide)) (fun _ _ => rfl)
                    have hEI36 := hEI1.put hI21 (by decide)
                    show pl _ _ _ (195, [(0, .ref m0), (2, .int (nI pc))], [], M17) _
                    refine ps_st (S' := (230, [(0, .ref m0), (2, .int (nI pc))], [], M17)) rfl rfl rfl ?_
                    refine ps_st (S' := (91, [(0, .ref m0), (2, .int (nI pc))], [], M17)) rfl rfl rfl ?_
                    exfalso
                    have hz9 := va_sw (n := n) (E := E) (mj := mj) (ml := ml) (show pc < L by omega) n_127 (by decide) q147_s
                    omega
                  · have c_178 : ¬ ((nI L) < (nI (pc + x16.1))) := of_decide_eq_false c_178
                    have n_178 : ¬ (L < pc + x16.1) := fun h9 => c_178 ((lt_nI (p := L) (n := pc + x16.1) (by omega) (by omega)).mpr h9)
                    refine ps_st (S' := (182, [(4, .int (nI x16.1)), (0, .ref m0), (2, .int (nI pc)), (3, .int (nI 170))], [.ref m0], M1)) rfl rfl rfl ?_
                    refine ps_st (S' := (183, [(4, .int (nI x16.1)), (0, .ref m0), (2, .int (nI pc)), (3, .int (nI 170))], [.int (nI pc), .ref m0], M1)) rfl rfl rfl ?_
                    refine ps_st (S' := (184, [(4, .int (nI x16.1)), (0, .ref m0), (2, .int (nI pc)), (3, .int (nI 170))], [.int (nI 170), .int (nI pc), .ref m0], M1)) rfl rfl rfl ?_
                    refine pl_call (a := [.ref m0, .int (nI pc), .int (nI 170)]) (rest := []) rfl rfl rfl (rd_op1 (n := n) (f := f) (tx := tx) (cN := cN) (A := A) (N := N) (mj := mj) (E := E) (cb := cb) (ml := ml) (s9 := s9) (pc := pc) (op := 170) hR1 hl51 hl52 hl53 hl77 hl79 hl9 hF1 hY1 hP1 (hEP) (hN) (hmj) (hml) (hs9) (hCP) (hPF) (by omega) (by decide)) (fun v37 M38 q39 => ?_)
                    obtain ⟨rfl, rfl⟩ := q39
                    show pl _ _ _ (187, [(4, .int (nI x16.1)), (0, .ref m0), (2, .int (nI pc)), (3, .int (nI 170))], [.int (nI 1)], M1) _
                    refine ps_if (S1 := (198, [(4, .int (nI x16.1)), (0, .ref m0), (2, .int (nI pc)), (3, .int (nI 170))], [], M1)) (S2 := (190, [(0, .ref m0), (2, .int (nI pc))], [], M1)) rfl rfl rfl (fun c_187 => ?_) (fun c_187 => ?_)
                    rotate_left
                    · exact absurd (by decide) (of_decide_eq_false c_187)
                    have hva : vaN f n E mj cb L ml pc = x16.1 := hz9.1
                    have hsz : 1 ≤ x16.1 := by omega
                    have hnin : pc ∉ S := fun h9 => absurd (hlt pc h9).1 (Nat.lt_irrefl _)
                    refine ps_st (S' := (199, [(4, .int (nI x16.1)), (0, .ref m0), (2, .int (nI pc)), (3, .int (nI 170))], [.ref m0], M1)) rfl rfl rfl ?_
                    refine pr_ref (j := 81) (S' := (202, [(4, .int (nI x16.1)), (0, .ref m0), (2, .int (nI pc)), (3, .int (nI 170))], [.ref (q 81)], M1)) rfl hR1 rfl rfl ?_
                    refine ps_st (S' := (203, [(4, .int (nI x16.1)), (0, .ref m0), (2, .int (nI pc)), (3, .int (nI 170))], [.int (nI pc), .ref (q 81)], M1)) rfl rfl rfl ?_
                    refine ps_st (S' := (204, [(4, .int (nI x16.1)), (0, .ref m0), (2, .int (nI pc)), (3, .int (nI 170))], [.ref m0, .int (nI pc), .ref (q 81)], M1)) rfl rfl rfl ?_
                    refine pr_int (j := 75) (S' := (207, [(4, .int (nI x16.1)), (0, .ref m0), (2, .int (nI pc)), (3, .int (nI 170))], [.int (nI S.length), .int (nI pc), .ref (q 81)], M1)) rfl hR1 rfl hl75 rfl ?_
                    refine pr_st (a := 81) (j := pc) rfl hR1 rfl (by omega) (fun M40 R41 i1_207 hR42 hS43 => ?_)
                    have hF_44 := hF1.mono (fun _ _ => rfl) (rRx hS43 (by decide))
                    have hY_45 := hY1.mono (fun _ _ => rfl) (rRx hS43 (by decide))
                    have hP_46 := hP1.mono (fun _ _ => rfl) (rRx hS43 (by decide))
                    have hB_47 := hB1.mono (fun _ _ => rfl) (rRx hS43 (by decide))
                    have hER48 := hER1.st hS43 (by decide)
                    show pl _ _ _ (208, [(4, .int (nI x16.1)), (0, .ref m0), (2, .int (nI pc)), (3, .int (nI 170))], [], M40) _
                    have hW_49 := WH.snoc (I' := I1) hW1 hS43 hnin (by omega)
                    refine ps_st (S' := (209, [(4, .int (nI x16.1)), (0, .ref m0), (2, .int (nI pc)), (3, .int (nI 170))], [.ref m0], M40)) rfl rfl rfl ?_
                    refine pr_ref (j := 80) (S' := (212, [(4, .int (nI x16.1)), (0, .ref m0), (2, .int (nI pc)), (3, .int (nI 170))], [.ref (q 80)], M40)) rfl hR42 rfl rfl ?_
                    refine ps_st (S' := (213, [(4, .int (nI x16.1)), (0, .ref m0), (2, .int (nI pc)), (3, .int (nI 170))], [.ref m0, .ref (q 80)], M40)) rfl rfl rfl ?_
                    refine ps_st (S' := (214, [(4, .int (nI x16.1)), (0, .ref m0), (2, .int (nI pc)), (3, .int (nI 170))], [.ref m0, .ref m0, .ref (q 80)], M40)) rfl rfl rfl ?_
                    refine pr_int (j := 75) (S' := (217, [(4, .int (nI x16.1)), (0, .ref m0), (2, .int (nI pc)), (3, .int (nI 170))], [.int (nI S.length), .ref m0, .ref (q 80)], M40)) rfl hR42 rfl hl75 rfl ?_
                    refine ps_st (S' := (218, [(4, .int (nI x16.1)), (0, .ref m0), (2, .int (nI pc)), (3, .int (nI 170))], [.int (nI S.length), .ref m0, .int (nI S.length), .ref (q 80)], M40)) rfl rfl rfl ?_
                    refine ps_st (S' := (219, [(4, .int (nI x16.1)), (0, .ref m0), (2, .int (nI pc)), (3, .int (nI 170))], [.int 1, .int (nI S.length), .ref m0, .int (nI S.length), .ref (q 80)], M40)) rfl rfl rfl ?_
                    refine ps_st (S' := (220, [(4, .int (nI x16.1)), (0, .ref m0), (2, .int (nI pc)), (3, .int (nI 170))], [.int ((nI S.length) + 1), .ref m0, .int (nI S.length), .ref (q 80)], M40)) rfl rfl rfl ?_
                    rw [nI_add1 (p := S.length) (k := 1) (x := 1) rfl (by omega)]
                    show pl _ _ _ (_, [(4, .int (nI x16.1)), (0, .ref m0), (2, .int (nI pc)), (3, .int (nI 170))], [.int (nI (S.length + 1)), .ref m0, .int (nI S.length), .ref (q 80)], M40) _
                    refine pr_put (j := 75) rfl hR42 rfl (fun M50 I51 hR52 hi54 hI55 => ?_)
                    have hi56 := (hI55 51 (by decide)).trans hl51
                    have hi57 := (hI55 52 (by decide)).trans hl52
                    have hi58 := (hI55 53 (by decide)).trans hl53
                    have hi59 := (hI55 9 (by decide)).trans hl9
                    have hi60 := (hI55 74 (by decide)).trans hl74
                    have hi61 := (hI55 77 (by decide)).trans hl77
                    have hi62 := (hI55 78 (by decide)).trans hl78
                    have hi63 := (hI55 79 (by decide)).trans hl79
                    have hi64 := (hI55 76 (by decide)).trans hl76
                    have hF_65 := hF_44.mono (pIx hI55 (by decide)) (fun _ _ => rfl)
                    have hY_66 := hY_45.mono (pIx hI55 (by decide)) (fun _ _ => rfl)
                    have hP_67 := hP_46.mono (pIx hI55 (by decide)) (fun _ _ => rfl)
                    have hB_68 := hB_47.mono (pIx hI55 (by decide)) (fun _ _ => rfl)
                    have hW_69 := hW_49.mono (pIx hI55 (by decide)) (fun _ _ => rfl)
                    have hEI70 := hEI1.put hI55 (by decide)
                    show pl _ _ _ (223, [(4, .int (nI x16.1)), (0, .ref m0), (2, .int (nI pc)), (3, .int (nI 170))], [.int (nI S.length), .ref (q 80)], M50) _
                    refine ps_st (S' := (224, [(4, .int (nI x16.1)), (0, .ref m0), (2, .int (nI pc)), (3, .int (nI 170))], [.int (nI pc), .int (nI S.length), .ref (q 80)], M50)) rfl rfl rfl ?_
                    refine pr_st (a := 80) (j := S.length) rfl hR52 rfl (by omega) (fun M71 R72 i1_224 hR73 hS74 => ?_)
                    have hF_75 := hF_65.mono (fun _ _ => rfl) (rRx hS74 (by decide))
                    have hY_76 := hY_66.mono (fun _ _ => rfl) (rRx hS74 (by decide))
                    have hP_77 := hP_67.mono (fun _ _ => rfl) (rRx hS74 (by decide))
                    have hW_78 := hW_69.mono (fun _ _ => rfl) (rRx hS74 (by decide))
                    have hER79 := hER48.st hS74 (by decide)
                    show pl _ _ _ (225, [(4, .int (nI x16.1)), (0, .ref m0), (2, .int (nI pc)), (3, .int (nI 170))], [], M71) _
                    have hB_80 := BG.snoc (I' := I51) hB_68 hS74
                    refine ps_st (S' := (226, [(4, .int (nI x16.1)), (0, .ref m0), (2, .int (nI pc)), (3, .int (nI 170))], [.int (nI pc)], M71)) rfl rfl rfl ?_
                    refine ps_st (S' := (228, [(4, .int (nI x16.1)), (0, .ref m0), (2, .int (nI pc)), (3, .int (nI 170))], [.int (nI x16.1), .int (nI pc)], M71)) rfl rfl rfl ?_
                    refine ps_st (S' := (229, [(4, .int (nI x16.1)), (0, .ref m0), (2, .int (nI pc)), (3, .int (nI 170))], [.int ((nI pc) + (nI x16.1))], M71)) rfl rfl rfl ?_
                    rw [nI_add1 (p := pc) (k := x16.1) (x := (nI x16.1)) rfl (by omega)]
                    show pl _ _ _ (_, [(4, .int (nI x16.1)), (0, .ref m0), (2, .int (nI pc)), (3, .int (nI 170))], [.int (nI (pc + x16.1))], M71) _
                    refine ps_st (S' := (230, [(0, .ref m0), (2, .int (nI (pc + x16.1)))], [], M71)) rfl rfl rfl ?_
                    refine ps_st (S' := (91, [(0, .ref m0), (2, .int (nI (pc + x16.1)))], [], M71)) rfl rfl rfl ?_
                    have hi75_9 : I51 75 = some (nI (S ++ [pc]).length) := by rw [List.length_append]; exact hi54
                    have hi76_9 : I51 76 = some (-1) := by rw [← hwm]; exact hi64
                    exact ih.2.1 (pc + (x16.1)) (S ++ [pc]) (-1) M71 I51 R72 hR73 hEI70 hER79 hi56 hi57 hi58 hi59 hi60 hi61 hi62 hi63 hi75_9 hi76_9 hF_75 hY_76 hP_77 hW_78 hB_80 (by rw [List.length_append]; simp only [List.length_cons, List.length_nil]; omega) (fun p hp => (by rcases List.mem_append.mp hp with h8 | h8; have := hlt p h8; exact ⟨by omega, this.2⟩; rw [List.mem_singleton.mp h8]; exact ⟨by omega, by omega⟩)) (Or.inl ⟨rfl, by
                        rw [← hcu, cuS_st (i := S.length) (by omega), if_neg (by omega), if_neg (by omega), hva, List.length_append]
                        rfl⟩)
                · skip
                  obtain ⟨q147_s, rfl, rfl⟩ := q15
                  show pl _ _ _ (150, [(0, .ref m0), (2, .int (nI pc)), (3, .int (nI 170))], [.int (-1)], M1) _
                  refine ps_st (S' := (163, [(0, .ref m0), (2, .int (nI pc)), (3, .int (nI 170))], [.int (-1)], M1)) rfl rfl rfl ?_
                  refine ps_st (S' := (165, [(4, .int (-1)), (0, .ref m0), (2, .int (nI pc)), (3, .int (nI 170))], [], M1)) rfl rfl rfl ?_
                  refine ps_st (S' := (167, [(4, .int (-1)), (0, .ref m0), (2, .int (nI pc)), (3, .int (nI 170))], [.int (-1)], M1)) rfl rfl rfl ?_
                  refine ps_if (S1 := (190, [(0, .ref m0), (2, .int (nI pc))], [], M1)) (S2 := (170, [(4, .int (-1)), (0, .ref m0), (2, .int (nI pc)), (3, .int (nI 170))], [], M1)) rfl rfl rfl (fun c_167 => ?_) (fun c_167 => ?_)
                  rotate_left
                  · exact absurd (by decide) (of_decide_eq_false c_167)
                  refine ps_st (S' := (191, [(0, .ref m0), (2, .int (nI pc))], [.ref m0], M1)) rfl rfl rfl ?_
                  refine ps_st (S' := (192, [(0, .ref m0), (2, .int (nI pc))], [.int (nI pc), .ref m0], M1)) rfl rfl rfl ?_
                  refine pr_put (j := 76) rfl hR1 rfl (fun M81 I82 hR83 hi84 hI85 => ?_)
                  have hi86 := (hI85 51 (by decide)).trans hl51
                  have hi87 := (hI85 52 (by decide)).trans hl52
                  have hi88 := (hI85 53 (by decide)).trans hl53
                  have hi89 := (hI85 9 (by decide)).trans hl9
                  have hi90 := (hI85 74 (by decide)).trans hl74
                  have hi91 := (hI85 77 (by decide)).trans hl77
                  have hi92 := (hI85 78 (by decide)).trans hl78
                  have hi93 := (hI85 79 (by decide)).trans hl79
                  have hi94 := (hI85 75 (by decide)).trans hl75
                  have hF_95 := hF1.mono (pIx hI85 (by decide)) (fun _ _ => rfl)
                  have hY_96 := hY1.mono (pIx hI85 (by decide)) (fun _ _ => rfl)
                  have hP_97 := hP1.mono (pIx hI85 (by decide)) (fun _ _ => rfl)
                  have hW_98 := hW1.mono (pIx hI85 (by decide)) (fun _ _ => rfl)
                  have hB_99 := hB1.mono (pIx hI85 (by decide)) (fun _ _ => rfl)
                  have hEI100 := hEI1.put hI85 (by decide)
                  show pl _ _ _ (195, [(0, .ref m0), (2, .int (nI pc))], [], M81) _
                  refine ps_st (S' := (230, [(0, .ref m0), (2, .int (nI pc))], [], M81)) rfl rfl rfl ?_
                  refine ps_st (S' := (91, [(0, .ref m0), (2, .int (nI pc))], [], M81)) rfl rfl rfl ?_
                  exact ih.2.1 (pc) (S) (nI pc) M81 I82 R1 hR83 hEI100 hER1 hi86 hi87 hi88 hi89 hi90 hi91 hi92 hi93 hi94 hi84 hF_95 hY_96 hP_97 hW_98 hB_99 (hSp) (hlt) (Or.inr ⟨pc, by omega, rfl, by
                      rw [← hcu, cuS_st (i := S.length) (by omega), if_neg (by omega), if_pos (va_sw0 (by omega) n_127 (by decide) q147_s)]⟩)
              · have c_127 : ¬ ((nI (by1 f (cb + pc))) = 170) := of_decide_eq_false c_127
                have n_127 : ¬ (by1 f (cb + pc) = 170) := fun h9 => c_127 ((eq_nI (p := by1 f (cb + pc)) (n := 170) (Nat.lt_trans (by1_lt _ _) (by decide)) (by decide)).mpr h9)
                refine ps_st (S' := (131, [(3, .int (nI (by1 f (cb + pc)))), (0, .ref m0), (2, .int (nI pc))], [.int (nI (by1 f (cb + pc)))], M1)) rfl rfl rfl ?_
                refine ps_st (S' := (134, [(3, .int (nI (by1 f (cb + pc)))), (0, .ref m0), (2, .int (nI pc))], [.int 171, .int (nI (by1 f (cb + pc)))], M1)) rfl rfl rfl ?_
                refine ps_if2 (S1 := (144, [(0, .ref m0), (2, .int (nI pc)), (3, .int (nI (by1 f (cb + pc))))], [], M1)) (S2 := (137, [(3, .int (nI (by1 f (cb + pc)))), (0, .ref m0), (2, .int (nI pc))], [], M1)) rfl rfl rfl (fun c_134 => ?_) (fun c_134 => ?_)
                · have c_134 : (nI (by1 f (cb + pc))) = 171 := of_decide_eq_true c_134
                  have n_134 : by1 f (cb + pc) = 171 := (eq_nI (p := by1 f (cb + pc)) (n := 171) (Nat.lt_trans (by1_lt _ _) (by decide)) (by decide)).mp c_134
                  rw [n_134]
                  show pl _ _ _ (144, [(0, .ref m0), (2, .int (nI pc)), (3, .int (nI 171))], [], M1) _
                  refine ps_st (S' := (145, [(0, .ref m0), (2, .int (nI pc)), (3, .int (nI 171))], [.ref m0], M1)) rfl rfl rfl ?_
                  refine ps_st (S' := (146, [(0, .ref m0), (2, .int (nI pc)), (3, .int (nI 171))], [.int (nI pc), .ref m0], M1)) rfl rfl rfl ?_
                  refine ps_st (S' := (147, [(0, .ref m0), (2, .int (nI pc)), (3, .int (nI 171))], [.int (nI 171), .int (nI pc), .ref m0], M1)) rfl rfl rfl ?_
                  refine pl_call (a := [.ref m0, .int (nI pc), .int (nI 171)]) (rest := []) rfl rfl rfl (rd_formedK (n := n) (f := f) (cb := cb) (L := L) (pc := pc) hR1 hl77 hl78 hF1 (hcl) (hpc)) (fun v101 M102 q103 => ?_)
                  rcases q103 with q103 | q103
                  · skip
                    obtain ⟨x104, q147_s, rfl, rfl⟩ := q103
                    show pl _ _ _ (150, [(0, .ref m0), (2, .int (nI pc)), (3, .int (nI 171))], [.int (nI x104.1)], M1) _
                    have hz9 := va_sw (n := n) (E := E) (mj := mj) (ml := ml) hpc n_134 (by decide) q147_s
                    refine ps_st (S' := (163, [(0, .ref m0), (2, .int (nI pc)), (3, .int (nI 171))], [.int (nI x104.1)], M1)) rfl rfl rfl ?_
                    refine ps_st (S' := (165, [(4, .int (nI x104.1)), (0, .ref m0), (2, .int (nI pc)), (3, .int (nI 171))], [], M1)) rfl rfl rfl ?_
                    refine ps_st (S' := (167, [(4, .int (nI x104.1)), (0, .ref m0), (2, .int (nI pc)), (3, .int (nI 171))], [.int (nI x104.1)], M1)) rfl rfl rfl ?_
                    refine ps_if (S1 := (190, [(0, .ref m0), (2, .int (nI pc))], [], M1)) (S2 := (170, [(4, .int (nI x104.1)), (0, .ref m0), (2, .int (nI pc)), (3, .int (nI 171))], [], M1)) rfl rfl rfl (fun c_167 => ?_) (fun c_167 => ?_)
                    · exact absurd (of_decide_eq_true c_167) (nI_n0 (by omega))
                    refine ps_st (S' := (171, [(4, .int (nI x104.1)), (0, .ref m0), (2, .int (nI pc)), (3, .int (nI 171))], [.int (nI pc)], M1)) rfl rfl rfl ?_
                    refine ps_st (S' := (173, [(4, .int (nI x104.1)), (0, .ref m0), (2, .int (nI pc)), (3, .int (nI 171))], [.int (nI x104.1), .int (nI pc)], M1)) rfl rfl rfl ?_
                    refine ps_st (S' := (174, [(4, .int (nI x104.1)), (0, .ref m0), (2, .int (nI pc)), (3, .int (nI 171))], [.int ((nI pc) + (nI x104.1))], M1)) rfl rfl rfl ?_
                    rw [nI_add1 (p := pc) (k := x104.1) (x := (nI x104.1)) rfl (by omega)]
                    show pl _ _ _ (_, [(4, .int (nI x104.1)), (0, .ref m0), (2, .int (nI pc)), (3, .int (nI 171))], [.int (nI (pc + x104.1))], M1) _
                    refine ps_st (S' := (175, [(4, .int (nI x104.1)), (0, .ref m0), (2, .int (nI pc)), (3, .int (nI 171))], [.ref m0, .int (nI (pc + x104.1))], M1)) rfl rfl rfl ?_
                    refine pr_int (j := 78) (S' := (178, [(4, .int (nI x104.1)), (0, .ref m0), (2, .int (nI pc)), (3, .int (nI 171))], [.int (nI L), .int (nI (pc + x104.1))], M1)) rfl hR1 rfl hl78 rfl ?_
                    refine ps_if2 (S1 := (190, [(0, .ref m0), (2, .int (nI pc))], [], M1)) (S2 := (181, [(4, .int (nI x104.1)), (0, .ref m0), (2, .int (nI pc)), (3, .int (nI 171))], [], M1)) rfl rfl rfl (fun c_178 => ?_) (fun c_178 => ?_)
                    · have c_178 : (nI L) < (nI (pc + x104.1)) := of_decide_eq_true c_178
                      have n_178 : L < pc + x104.1 := (lt_nI (p := L) (n := pc + x104.1) (by omega) (by omega)).mp c_178
                      refine ps_st (S' := (191, [(0, .ref m0), (2, .int (nI pc))], [.ref m0], M1)) rfl rfl rfl ?_
                      refine ps_st (S' := (192, [(0, .ref m0), (2, .int (nI pc))], [.int (nI pc), .ref m0], M1)) rfl rfl rfl ?_
                      refine pr_put (j := 76) rfl hR1 rfl (fun M105 I106 hR107 hi108 hI109 => ?_)
                      have hi110 := (hI109 51 (by decide)).trans hl51
                      have hi111 := (hI109 52 (by decide)).trans hl52
                      have hi112 := (hI109 53 (by decide)).trans hl53
                      have hi113 := (hI109 9 (by decide)).trans hl9
                      have hi114 := (hI109 74 (by decide)).trans hl74
                      have hi115 := (hI109 77 (by decide)).trans hl77
                      have hi116 := (hI109 78 (by decide)).trans hl78
                      have hi117 := (hI109 79 (by decide)).trans hl79
                      have hi118 := (hI109 75 (by decide)).trans hl75
                      have hF_119 := hF1.mono (pIx hI109 (by decide)) (fun _ _ => rfl)
                      have hY_120 := hY1.mono (pIx hI109 (by decide)) (fun _ _ => rfl)
                      have hP_121 := hP1.mono (pIx hI109 (by decide)) (fun _ _ => rfl)
                      have hW_122 := hW1.mono (pIx hI109 (by decide)) (fun _ _ => rfl)
                      have hB_123 := hB1.mono (pIx hI109 (by decide)) (fun _ _ => rfl)
                      have hEI124 := hEI1.put hI109 (by decide)
                      show pl _ _ _ (195, [(0, .ref m0), (2, .int (nI pc))], [], M105) _
                      refine ps_st (S' := (230, [(0, .ref m0), (2, .int (nI pc))], [], M105)) rfl rfl rfl ?_
                      refine ps_st (S' := (91, [(0, .ref m0), (2, .int (nI pc))], [], M105)) rfl rfl rfl ?_
                      exfalso
                      have hz9 := va_sw (n := n) (E := E) (mj := mj) (ml := ml) (show pc < L by omega) n_134 (by decide) q147_s
                      omega
                    · have c_178 : ¬ ((nI L) < (nI (pc + x104.1))) := of_decide_eq_false c_178
                      have n_178 : ¬ (L < pc + x104.1) := fun h9 => c_178 ((lt_nI (p := L) (n := pc + x104.1) (by omega) (by omega)).mpr h9)
                      refine ps_st (S' := (182, [(4, .int (nI x104.1)), (0, .ref m0), (2, .int (nI pc)), (3, .int (nI 171))], [.ref m0], M1)) rfl rfl rfl ?_
                      refine ps_st (S' := (183, [(4, .int (nI x104.1)), (0, .ref m0), (2, .int (nI pc)), (3, .int (nI 171))], [.int (nI pc), .ref m0], M1)) rfl rfl rfl ?_
                      refine ps_st (S' := (184, [(4, .int (nI x104.1)), (0, .ref m0), (2, .int (nI pc)), (3, .int (nI 171))], [.int (nI 171), .int (nI pc), .ref m0], M1)) rfl rfl rfl ?_
                      refine pl_call (a := [.ref m0, .int (nI pc), .int (nI 171)]) (rest := []) rfl rfl rfl (rd_op1 (n := n) (f := f) (tx := tx) (cN := cN) (A := A) (N := N) (mj := mj) (E := E) (cb := cb) (ml := ml) (s9 := s9) (pc := pc) (op := 171) hR1 hl51 hl52 hl53 hl77 hl79 hl9 hF1 hY1 hP1 (hEP) (hN) (hmj) (hml) (hs9) (hCP) (hPF) (by omega) (by decide)) (fun v125 M126 q127 => ?_)
                      obtain ⟨rfl, rfl⟩ := q127
                      show pl _ _ _ (187, [(4, .int (nI x104.1)), (0, .ref m0), (2, .int (nI pc)), (3, .int (nI 171))], [.int (nI 1)], M1) _
                      refine ps_if (S1 := (198, [(4, .int (nI x104.1)), (0, .ref m0), (2, .int (nI pc)), (3, .int (nI 171))], [], M1)) (S2 := (190, [(0, .ref m0), (2, .int (nI pc))], [], M1)) rfl rfl rfl (fun c_187 => ?_) (fun c_187 => ?_)
                      rotate_left
                      · exact absurd (by decide) (of_decide_eq_false c_187)
                      have hva : vaN f n E mj cb L ml pc = x104.1 := hz9.1
                      have hsz : 1 ≤ x104.1 := by omega
                      have hnin : pc ∉ S := fun h9 => absurd (hlt pc h9).1 (Nat.lt_irrefl _)
                      refine ps_st (S' := (199, [(4, .int (nI x104.1)), (0, .ref m0), (2, .int (nI pc)), (3, .int (nI 171))], [.ref m0], M1)) rfl rfl rfl ?_
                      refine pr_ref (j := 81) (S' := (202, [(4, .int (nI x104.1)), (0, .ref m0), (2, .int (nI pc)), (3, .int (nI 171))], [.ref (q 81)], M1)) rfl hR1 rfl rfl ?_
                      refine ps_st (S' := (203, [(4, .int (nI x104.1)), (0, .ref m0), (2, .int (nI pc)), (3, .int (nI 171))], [.int (nI pc), .ref (q 81)], M1)) rfl rfl rfl ?_
                      refine ps_st (S' := (204, [(4, .int (nI x104.1)), (0, .ref m0), (2, .int (nI pc)), (3, .int (nI 171))], [.ref m0, .int (nI pc), .ref (q 81)], M1)) rfl rfl rfl ?_
                      refine pr_int (j := 75) (S' := (207, [(4, .int (nI x104.1)), (0, .ref m0), (2, .int (nI pc)), (3, .int (nI 171))], [.int (nI S.length), .int (nI pc), .ref (q 81)], M1)) rfl hR1 rfl hl75 rfl ?_
                      refine pr_st (a := 81) (j := pc) rfl hR1 rfl (by omega) (fun M128 R129 i1_207 hR130 hS131 => ?_)
                      have hF_132 := hF1.mono (fun _ _ => rfl) (rRx hS131 (by decide))
                      have hY_133 := hY1.mono (fun _ _ => rfl) (rRx hS131 (by decide))
                      have hP_134 := hP1.mono (fun _ _ => rfl) (rRx hS131 (by decide))
                      have hB_135 := hB1.mono (fun _ _ => rfl) (rRx hS131 (by decide))
                      have hER136 := hER1.st hS131 (by decide)
                      show pl _ _ _ (208, [(4, .int (nI x104.1)), (0, .ref m0), (2, .int (nI pc)), (3, .int (nI 171))], [], M128) _
                      have hW_137 := WH.snoc (I' := I1) hW1 hS131 hnin (by omega)
                      refine ps_st (S' := (209, [(4, .int (nI x104.1)), (0, .ref m0), (2, .int (nI pc)), (3, .int (nI 171))], [.ref m0], M128)) rfl rfl rfl ?_
                      refine pr_ref (j := 80) (S' := (212, [(4, .int (nI x104.1)), (0, .ref m0), (2, .int (nI pc)), (3, .int (nI 171))], [.ref (q 80)], M128)) rfl hR130 rfl rfl ?_
                      refine ps_st (S' := (213, [(4, .int (nI x104.1)), (0, .ref m0), (2, .int (nI pc)), (3, .int (nI 171))], [.ref m0, .ref (q 80)], M128)) rfl rfl rfl ?_
                      refine ps_st (S' := (214, [(4, .int (nI x104.1)), (0, .ref m0), (2, .int (nI pc)), (3, .int (nI 171))], [.ref m0, .ref m0, .ref (q 80)], M128)) rfl rfl rfl ?_
                      refine pr_int (j := 75) (S' := (217, [(4, .int (nI x104.1)), (0, .ref m0), (2, .int (nI pc)), (3, .int (nI 171))], [.int (nI S.length), .ref m0, .ref (q 80)], M128)) rfl hR130 rfl hl75 rfl ?_
                      refine ps_st (S' := (218, [(4, .int (nI x104.1)), (0, .ref m0), (2, .int (nI pc)), (3, .int (nI 171))], [.int (nI S.length), .ref m0, .int (nI S.length), .ref (q 80)], M128)) rfl rfl rfl ?_
                      refine ps_st (S' := (219, [(4, .int (nI x104.1)), (0, .ref m0), (2, .int (nI pc)), (3, .int (nI 171))], [.int 1, .int (nI S.length), .ref m0, .int (nI S.length), .ref (q 80)], M128)) rfl rfl rfl ?_
                      refine ps_st (S' := (220, [(4, .int (nI x104.1)), (0, .ref m0), (2, .int (nI pc)), (3, .int (nI 171))], [.int ((nI S.length) + 1), .ref m0, .int (nI S.length), .ref (q 80)], M128)) rfl rfl rfl ?_
                      rw [nI_add1 (p := S.length) (k := 1) (x := 1) rfl (by omega)]
                      show pl _ _ _ (_, [(4, .int (nI x104.1)), (0, .ref m0), (2, .int (nI pc)), (3, .int (nI 171))], [.int (nI (S.length + 1)), .ref m0, .int (nI S.length), .ref (q 80)], M128) _
                      refine pr_put (j := 75) rfl hR130 rfl (fun M138 I139 hR140 hi141 hI142 => ?_)
                      have hi143 := (hI142 51 (by decide)).trans hl51
                      have hi144 := (hI142 52 (by decide)).trans hl52
                      have hi145 := (hI142 53 (by decide)).trans hl53
                      have hi146 := (hI142 9 (by decide)).trans hl9
                      have hi147 := (hI142 74 (by decide)).trans hl74
                      have hi148 := (hI142 77 (by decide)).trans hl77
                      have hi149 := (hI142 78 (by decide)).trans hl78
                      have hi150 := (hI142 79 (by decide)).trans hl79
                      have hi151 := (hI142 76 (by decide)).trans hl76
                      have hF_152 := hF_132.mono (pIx hI142 (by decide)) (fun _ _ => rfl)
                      have hY_153 := hY_133.mono (pIx hI142 (by decide)) (fun _ _ => rfl)
                      have hP_154 := hP_134.mono (pIx hI142 (by decide)) (fun _ _ => rfl)
                      have hB_155 := hB_135.mono (pIx hI142 (by decide)) (fun _ _ => rfl)
                      have hW_156 := hW_137.mono (pIx hI142 (by decide)) (fun _ _ => rfl)
                      have hEI157 := hEI1.put hI142 (by decide)
                      show pl _ _ _ (223, [(4, .int (nI x104.1)), (0, .ref m0), (2, .int (nI pc)), (3, .int (nI 171))], [.int (nI S.length), .ref (q 80)], M138) _
                      refine ps_st (S' := (224, [(4, .int (nI x104.1)), (0, .ref m0), (2, .int (nI pc)), (3, .int (nI 171))], [.int (nI pc), .int (nI S.length), .ref (q 80)], M138)) rfl rfl rfl ?_
                      refine pr_st (a := 80) (j := S.length) rfl hR140 rfl (by omega) (fun M158 R159 i1_224 hR160 hS161 => ?_)
                      have hF_162 := hF_152.mono (fun _ _ => rfl) (rRx hS161 (by decide))
                      have hY_163 := hY_153.mono (fun _ _ => rfl) (rRx hS161 (by decide))
                      have hP_164 := hP_154.mono (fun _ _ => rfl) (rRx hS161 (by decide))
                      have hW_165 := hW_156.mono (fun _ _ => rfl) (rRx hS161 (by decide))
                      have hER166 := hER136.st hS161 (by decide)
                      show pl _ _ _ (225, [(4, .int (nI x104.1)), (0, .ref m0), (2, .int (nI pc)), (3, .int (nI 171))], [], M158) _
                      have hB_167 := BG.snoc (I' := I139) hB_155 hS161
                      refine ps_st (S' := (226, [(4, .int (nI x104.1)), (0, .ref m0), (2, .int (nI pc)), (3, .int (nI 171))], [.int (nI pc)], M158)) rfl rfl rfl ?_
                      refine ps_st (S' := (228, [(4, .int (nI x104.1)), (0, .ref m0), (2, .int (nI pc)), (3, .int (nI 171))], [.int (nI x104.1), .int (nI pc)], M158)) rfl rfl rfl ?_
                      refine ps_st (S' := (229, [(4, .int (nI x104.1)), (0, .ref m0), (2, .int (nI pc)), (3, .int (nI 171))], [.int ((nI pc) + (nI x104.1))], M158)) rfl rfl rfl ?_
                      rw [nI_add1 (p := pc) (k := x104.1) (x := (nI x104.1)) rfl (by omega)]
                      show pl _ _ _ (_, [(4, .int (nI x104.1)), (0, .ref m0), (2, .int (nI pc)), (3, .int (nI 171))], [.int (nI (pc + x104.1))], M158) _
                      refine ps_st (S' := (230, [(0, .ref m0), (2, .int (nI (pc + x104.1)))], [], M158)) rfl rfl rfl ?_
                      refine ps_st (S' := (91, [(0, .ref m0), (2, .int (nI (pc + x104.1)))], [], M158)) rfl rfl rfl ?_
                      have hi75_9 : I139 75 = some (nI (S ++ [pc]).length) := by rw [List.length_append]; exact hi141
                      have hi76_9 : I139 76 = some (-1) := by rw [← hwm]; exact hi151
                      exact ih.2.1 (pc + (x104.1)) (S ++ [pc]) (-1) M158 I139 R159 hR160 hEI157 hER166 hi143 hi144 hi145 hi146 hi147 hi148 hi149 hi150 hi75_9 hi76_9 hF_162 hY_163 hP_164 hW_165 hB_167 (by rw [List.length_append]; simp only [List.length_cons, List.length_nil]; omega) (fun p hp => (by rcases List.mem_append.mp hp with h8 | h8; have := hlt p h8; exact ⟨by omega, this.2⟩; rw [List.mem_singleton.mp h8]; exact ⟨by omega, by omega⟩)) (Or.inl ⟨rfl, by
                          rw [← hcu, cuS_st (i := S.length) (by omega), if_neg (by omega), if_neg (by omega), hva, List.length_append]
                          rfl⟩)
                  · skip
                    obtain ⟨q147_s, rfl, rfl⟩ := q103
                    show pl _ _ _ (150, [(0, .ref m0), (2, .int (nI pc)), (3, .int (nI 171))], [.int (-1)], M1) _
                    refine ps_st (S' := (163, [(0, .ref m0), (2, .int (nI pc)), (3, .int (nI 171))], [.int (-1)], M1)) rfl rfl rfl ?_
                    refine ps_st (S' := (165, [(4, .int (-1)), (0, .ref m0), (2, .int (nI pc)), (3, .int (nI 171))], [], M1)) rfl rfl rfl ?_
                    refine ps_st (S' := (167, [(4, .int (-1)), (0, .ref m0), (2, .int (nI pc)), (3, .int (nI 171))], [.int (-1)], M1)) rfl rfl rfl ?_
                    refine ps_if (S1 := (190, [(0, .ref m0), (2, .int (nI pc))], [], M1)) (S2 := (170, [(4, .int (-1)), (0, .ref m0), (2, .int (nI pc)), (3, .int (nI 171))], [], M1)) rfl rfl rfl (fun c_167 => ?_) (fun c_167 => ?_)
                    rotate_left
                    · exact absurd (by decide) (of_decide_eq_false c_167)
                    refine ps_st (S' := (191, [(0, .ref m0), (2, .int (nI pc))], [.ref m0], M1)) rfl rfl rfl ?_
                    refine ps_st (S' := (192, [(0, .ref m0), (2, .int (nI pc))], [.int (nI pc), .ref m0], M1)) rfl rfl rfl ?_
                    refine pr_put (j := 76) rfl hR1 rfl (fun M168 I169 hR170 hi171 hI172 => ?_)
                    have hi173 := (hI172 51 (by decide)).trans hl51
                    have hi174 := (hI172 52 (by decide)).trans hl52
                    have hi175 := (hI172 53 (by decide)).trans hl53
                    have hi176 := (hI172 9 (by decide)).trans hl9
                    have hi177 := (hI172 74 (by decide)).trans hl74
                    have hi178 := (hI172 77 (by decide)).trans hl77
                    have hi179 := (hI172 78 (by decide)).trans hl78
                    have hi180 := (hI172 79 (by decide)).trans hl79
                    have hi181 := (hI172 75 (by decide)).trans hl75
                    have hF_182 := hF1.mono (pIx hI172 (by decide)) (fun _ _ => rfl)
                    have hY_183 := hY1.mono (pIx hI172 (by decide)) (fun _ _ => rfl)
                    have hP_184 := hP1.mono (pIx hI172 (by decide)) (fun _ _ => rfl)
                    have hW_185 := hW1.mono (pIx hI172 (by decide)) (fun _ _ => rfl)
                    have hB_186 := hB1.mono (pIx hI172 (by decide)) (fun _ _ => rfl)
                    have hEI187 := hEI1.put hI172 (by decide)
                    show pl _ _ _ (195, [(0, .ref m0), (2, .int (nI pc))], [], M168) _
                    refine ps_st (S' := (230, [(0, .ref m0), (2, .int (nI pc))], [], M168)) rfl rfl rfl ?_
                    refine ps_st (S' := (91, [(0, .ref m0), (2, .int (nI pc))], [], M168)) rfl rfl rfl ?_
                    exact ih.2.1 (pc) (S) (nI pc) M168 I169 R1 hR170 hEI187 hER1 hi173 hi174 hi175 hi176 hi177 hi178 hi179 hi180 hi181 hi171 hF_182 hY_183 hP_184 hW_185 hB_186 (hSp) (hlt) (Or.inr ⟨pc, by omega, rfl, by
                        rw [← hcu, cuS_st (i := S.length) (by omega), if_neg (by omega), if_pos (va_sw0 (by omega) n_134 (by decide) q147_s)]⟩)
                · have c_134 : ¬ ((nI (by1 f (cb + pc))) = 171) := of_decide_eq_false c_134
                  have n_134 : ¬ (by1 f (cb + pc) = 171) := fun h9 => c_134 ((eq_nI (p := by1 f (cb + pc)) (n := 171) (Nat.lt_trans (by1_lt _ _) (by decide)) (by decide)).mpr h9)
                  refine ps_st (S' := (138, [(3, .int (nI (by1 f (cb + pc)))), (0, .ref m0), (2, .int (nI pc))], [.int (nI (by1 f (cb + pc)))], M1)) rfl rfl rfl ?_
                  refine ps_st (S' := (141, [(3, .int (nI (by1 f (cb + pc)))), (0, .ref m0), (2, .int (nI pc))], [.int 196, .int (nI (by1 f (cb + pc)))], M1)) rfl rfl rfl ?_
                  refine ps_if2 (S1 := (153, [(3, .int (nI (by1 f (cb + pc)))), (0, .ref m0), (2, .int (nI pc))], [], M1)) (S2 := (144, [(0, .ref m0), (2, .int (nI pc)), (3, .int (nI (by1 f (cb + pc))))], [], M1)) rfl rfl rfl (fun c_141 => ?_) (fun c_141 => ?_)
                  · have c_141 : ¬ (nI (by1 f (cb + pc))) = 196 := of_decide_eq_true c_141
                    have n_141 : ¬ (by1 f (cb + pc) = 196) := fun h9 => c_141 ((eq_nI (p := by1 f (cb + pc)) (n := 196) (Nat.lt_trans (by1_lt _ _) (by decide)) (by decide)).mpr h9)
                    refine ps_st (S' := (156, [(3, .int (nI (by1 f (cb + pc)))), (0, .ref m0), (2, .int (nI pc))], [.ref (g.2.1 29)], M1)) rfl rfl rfl ?_
                    refine ps_st (S' := (157, [(3, .int (nI (by1 f (cb + pc)))), (0, .ref m0), (2, .int (nI pc))], [.int (nI (by1 f (cb + pc))), .ref (g.2.1 29)], M1)) rfl rfl rfl ?_
                    refine pr_schar (lk := 29) (j := by1 f (cb + pc)) (S' := (160, [(3, .int (nI (by1 f (cb + pc)))), (0, .ref m0), (2, .int (nI pc))], [.int (nI ((ltx 29).getD (by1 f (cb + pc)) 0))], M1)) rfl hR1 (⟨by decide, by decide⟩) (by omega) rfl ?_
                    have hz8 := szO_le (by1 f (cb + pc))
                    rw [len_of (op := by1 f (cb + pc)) (by omega) (by omega)]
                    show pl _ _ _ (160, [(3, .int (nI (by1 f (cb + pc)))), (0, .ref m0), (2, .int (nI pc))], [.int (nI (szO (by1 f (cb + pc)) + 48))], M1) _
                    refine ps_st (S' := (162, [(3, .int (nI (by1 f (cb + pc)))), (0, .ref m0), (2, .int (nI pc))], [.int 48, .int (nI (szO (by1 f (cb + pc)) + 48))], M1)) rfl rfl rfl ?_
                    refine ps_st (S' := (163, [(0, .ref m0), (2, .int (nI pc)), (3, .int (nI (by1 f (cb + pc))))], [.int ((nI (szO (by1 f (cb + pc)) + 48)) - 48)], M1)) rfl rfl rfl ?_
                    rw [nI_sub1 (p := szO (by1 f (cb + pc)) + 48) (k := 48) (x := 48) rfl (by omega) (by omega)]
                    show pl _ _ _ (_, [(0, .ref m0), (2, .int (nI pc)), (3, .int (nI (by1 f (cb + pc))))], [.int (nI ((szO (by1 f (cb + pc)) + 48) - 48))], M1) _
                    rw [show szO (by1 f (cb + pc)) + 48 - 48 = szO (by1 f (cb + pc)) by omega]
                    show pl _ _ _ (163, [(0, .ref m0), (2, .int (nI pc)), (3, .int (nI (by1 f (cb + pc))))], [.int (nI (szO (by1 f (cb + pc))))], M1) _
                    refine ps_st (S' := (165, [(4, .int (nI (szO (by1 f (cb + pc))))), (0, .ref m0), (2, .int (nI pc)), (3, .int (nI (by1 f (cb + pc))))], [], M1)) rfl rfl rfl ?_
                    refine ps_st (S' := (167, [(4, .int (nI (szO (by1 f (cb + pc))))), (0, .ref m0), (2, .int (nI pc)), (3, .int (nI (by1 f (cb + pc))))], [.int (nI (szO (by1 f (cb + pc))))], M1)) rfl rfl rfl ?_
                    refine ps_if (S1 := (190, [(0, .ref m0), (2, .int (nI pc))], [], M1)) (S2 := (170, [(4, .int (nI (szO (by1 f (cb + pc))))), (0, .ref m0), (2, .int (nI pc)), (3, .int (nI (by1 f (cb + pc))))], [], M1)) rfl rfl rfl (fun c_167 => ?_) (fun c_167 => ?_)
                    · exact absurd (of_decide_eq_true c_167) (nI_n0 (by omega))
                    refine ps_st (S' := (171, [(4, .int (nI (szO (by1 f (cb + pc))))), (0, .ref m0), (2, .int (nI pc)), (3, .int (nI (by1 f (cb + pc))))], [.int (nI pc)], M1)) rfl rfl rfl ?_
                    refine ps_st (S' := (173, [(4, .int (nI (szO (by1 f (cb + pc))))), (0, .ref m0), (2, .int (nI pc)), (3, .int (nI (by1 f (cb + pc))))], [.int (nI (szO (by1 f (cb + pc)))), .int (nI pc)], M1)) rfl rfl rfl ?_
                    refine ps_st (S' := (174, [(4, .int (nI (szO (by1 f (cb + pc))))), (0, .ref m0), (2, .int (nI pc)), (3, .int (nI (by1 f (cb + pc))))], [.int ((nI pc) + (nI (szO (by1 f (cb + pc)))))], M1)) rfl rfl rfl ?_
                    rw [nI_add1 (p := pc) (k := szO (by1 f (cb + pc))) (x := (nI (szO (by1 f (cb + pc))))) rfl (by omega)]
                    show pl _ _ _ (_, [(4, .int (nI (szO (by1 f (cb + pc))))), (0, .ref m0), (2, .int (nI pc)), (3, .int (nI (by1 f (cb + pc))))], [.int (nI (pc + szO (by1 f (cb + pc))))], M1) _
                    refine ps_st (S' := (175, [(4, .int (nI (szO (by1 f (cb + pc))))), (0, .ref m0), (2, .int (nI pc)), (3, .int (nI (by1 f (cb + pc))))], [.ref m0, .int (nI (pc + szO (by1 f (cb + pc))))], M1)) rfl rfl rfl ?_
                    refine pr_int (j := 78) (S' := (178, [(4, .int (nI (szO (by1 f (cb + pc))))), (0, .ref m0), (2, .int (nI pc)), (3, .int (nI (by1 f (cb + pc))))], [.int (nI L), .int (nI (pc + szO (by1 f (cb + pc))))], M1)) rfl hR1 rfl hl78 rfl ?_
                    refine ps_if2 (S1 := (190, [(0, .ref m0), (2, .int (nI pc))], [], M1)) (S2 := (181, [(4, .int (nI (szO (by1 f (cb + pc))))), (0, .ref m0), (2, .int (nI pc)), (3, .int (nI (by1 f (cb + pc))))], [], M1)) rfl rfl rfl (fun c_178 => ?_) (fun c_178 => ?_)
                    · have c_178 : (nI L) < (nI (pc + szO (by1 f (cb + pc)))) := of_decide_eq_true c_178
                      have n_178 : L < pc + szO (by1 f (cb + pc)) := (lt_nI (p := L) (n := pc + szO (by1 f (cb + pc))) (by omega) (by omega)).mp c_178
                      refine ps_st (S' := (191, [(0, .ref m0), (2, .int (nI pc))], [.ref m0], M1)) rfl rfl rfl ?_
                      refine ps_st (S' := (192, [(0, .ref m0), (2, .int (nI pc))], [.int (nI pc), .ref m0], M1)) rfl rfl rfl ?_
                      refine pr_put (j := 76) rfl hR1 rfl (fun M188 I189 hR190 hi191 hI192 => ?_)
                      have hi193 := (hI192 51 (by decide)).trans hl51
                      have hi194 := (hI192 52 (by decide)).trans hl52
                      have hi195 := (hI192 53 (by decide)).trans hl53
                      have hi196 := (hI192 9 (by decide)).trans hl9
                      have hi197 := (hI192 74 (by decide)).trans hl74
                      have hi198 := (hI192 77 (by decide)).trans hl77
                      have hi199 := (hI192 78 (by decide)).trans hl78
                      have hi200 := (hI192 79 (by decide)).trans hl79
                      have hi201 := (hI192 75 (by decide)).trans hl75
                      have hF_202 := hF1.mono (pIx hI192 (by decide)) (fun _ _ => rfl)
                      have hY_203 := hY1.mono (pIx hI192 (by decide)) (fun _ _ => rfl)
                      have hP_204 := hP1.mono (pIx hI192 (by decide)) (fun _ _ => rfl)
                      have hW_205 := hW1.mono (pIx hI192 (by decide)) (fun _ _ => rfl)
                      have hB_206 := hB1.mono (pIx hI192 (by decide)) (fun _ _ => rfl)
                      have hEI207 := hEI1.put hI192 (by decide)
                      show pl _ _ _ (195, [(0, .ref m0), (2, .int (nI pc))], [], M188) _
                      refine ps_st (S' := (230, [(0, .ref m0), (2, .int (nI pc))], [], M188)) rfl rfl rfl ?_
                      refine ps_st (S' := (91, [(0, .ref m0), (2, .int (nI pc))], [], M188)) rfl rfl rfl ?_
                      exact ih.2.1 (pc) (S) (nI pc) M188 I189 R1 hR190 hEI207 hER1 hi193 hi194 hi195 hi196 hi197 hi198 hi199 hi200 hi201 hi191 hF_202 hY_203 hP_204 hW_205 hB_206 (hSp) (hlt) (Or.inr ⟨pc, by omega, rfl, by
                          rw [← hcu, cuS_st (i := S.length) (by omega), if_neg (by omega), if_pos (va_lg (by omega) (by omega) (by omega) (by omega))]⟩)
                    · have c_178 : ¬ ((nI L) < (nI (pc + szO (by1 f (cb + pc))))) := of_decide_eq_false c_178
                      have n_178 : ¬ (L < pc + szO (by1 f (cb + pc))) := fun h9 => c_178 ((lt_nI (p := L) (n := pc + szO (by1 f (cb + pc))) (by omega) (by omega)).mpr h9)
                      refine ps_st (S' := (182, [(4, .int (nI (szO (by1 f (cb + pc))))), (0, .ref m0), (2, .int (nI pc)), (3, .int (nI (by1 f (cb + pc))))], [.ref m0], M1)) rfl rfl rfl ?_
                      refine ps_st (S' := (183, [(4, .int (nI (szO (by1 f (cb + pc))))), (0, .ref m0), (2, .int (nI pc)), (3, .int (nI (by1 f (cb + pc))))], [.int (nI pc), .ref m0], M1)) rfl rfl rfl ?_
                      refine ps_st (S' := (184, [(4, .int (nI (szO (by1 f (cb + pc))))), (0, .ref m0), (2, .int (nI pc)), (3, .int (nI (by1 f (cb + pc))))], [.int (nI (by1 f (cb + pc))), .int (nI pc), .ref m0], M1)) rfl rfl rfl ?_
                      refine pl_call (a := [.ref m0, .int (nI pc), .int (nI (by1 f (cb + pc)))]) (rest := []) rfl rfl rfl (rd_operands7 (n := n) (f := f) (tx := tx) (cN := cN) (A := A) (N := N) (mj := mj) (E := E) (cb := cb) (ml := ml) (s9 := s9) (pc := pc) (L := L) (op := (by1 f (cb + pc))) hR1 hl51 hl52 hl53 hl77 hl79 hl9 hF1 hY1 hP1 (hEP) (hN) (hmj) (hml) (hs9) (hCP) (hPF) (hcl) (hpc) (by omega) (by omega)) (fun v208 M209 q210 => ?_)
                      obtain ⟨rfl, rfl⟩ := q210
                      show pl _ _ _ (187, [(4, .int (nI (szO (by1 f (cb + pc))))), (0, .ref m0), (2, .int (nI pc)), (3, .int (nI (by1 f (cb + pc))))], [.int (nI (orN f n E mj cb ml pc (by1 f (cb + pc))))], M1) _
                      refine ps_if (S1 := (198, [(4, .int (nI (szO (by1 f (cb + pc))))), (0, .ref m0), (2, .int (nI pc)), (3, .int (nI (by1 f (cb + pc))))], [], M1)) (S2 := (190, [(0, .ref m0), (2, .int (nI pc))], [], M1)) rfl rfl rfl (fun c_187 => ?_) (fun c_187 => ?_)
                      · have c_187 : ¬ (nI (orN f n E mj cb ml pc (by1 f (cb + pc)))) = 0 := of_decide_eq_true c_187
                        have n_187 : ¬ (orN f n E mj cb ml pc (by1 f (cb + pc)) = 0) := fun h9 => c_187 ((eq_nI (p := orN f n E mj cb ml pc (by1 f (cb + pc))) (n := 0) (Nat.lt_trans (le1_or _ _ _ _ _ _ _ _) (by decide)) (by decide)).mpr h9)
                        have hva : vaN f n E mj cb L ml pc = szO (by1 f (cb + pc)) := by rw [va_op hpc (by omega) (by omega) (by omega), if_neg n_187]
                        have hsz : 1 ≤ szO (by1 f (cb + pc)) := by exact szO_1 _
                        have hnin : pc ∉ S := fun h9 => absurd (hlt pc h9).1 (Nat.lt_irrefl _)
                        refine ps_st (S' := (199, [(4, .int (nI (szO (by1 f (cb + pc))))), (0, .ref m0), (2, .int (nI pc)), (3, .int (nI (by1 f (cb + pc))))], [.ref m0], M1)) rfl rfl rfl ?_
                        refine pr_ref (j := 81) (S' := (202, [(4, .int (nI (szO (by1 f (cb + pc))))), (0, .ref m0), (2, .int (nI pc)), (3, .int (nI (by1 f (cb + pc))))], [.ref (q 81)], M1)) rfl hR1 rfl rfl ?_
                        refine ps_st (S' := (203, [(4, .int (nI (szO (by1 f (cb + pc))))), (0, .ref m0), (2, .int (nI pc)), (3, .int (nI (by1 f (cb + pc))))], [.int (nI pc), .ref (q 81)], M1)) rfl rfl rfl ?_
                        refine ps_st (S' := (204, [(4, .int (nI (szO (by1 f (cb + pc))))), (0, .ref m0), (2, .int (nI pc)), (3, .int (nI (by1 f (cb + pc))))], [.ref m0, .int (nI pc), .ref (q 81)], M1)) rfl rfl rfl ?_
                        refine pr_int (j := 75) (S' := (207, [(4, .int (nI (szO (by1 f (cb + pc))))), (0, .ref m0), (2, .int (nI pc)), (3, .int (nI (by1 f (cb + pc))))], [.int (nI S.length), .int (nI pc), .ref (q 81)], M1)) rfl hR1 rfl hl75 rfl ?_
                        refine pr_st (a := 81) (j := pc) rfl hR1 rfl (by omega) (fun M211 R212 i1_207 hR213 hS214 => ?_)
                        have hF_215 := hF1.mono (fun _ _ => rfl) (rRx hS214 (by decide))
                        have hY_216 := hY1.mono (fun _ _ => rfl) (rRx hS214 (by decide))
                        have hP_217 := hP1.mono (fun _ _ => rfl) (rRx hS214 (by decide))
                        have hB_218 := hB1.mono (fun _ _ => rfl) (rRx hS214 (by decide))
                        have hER219 := hER1.st hS214 (by decide)
                        show pl _ _ _ (208, [(4, .int (nI (szO (by1 f (cb + pc))))), (0, .ref m0), (2, .int (nI pc)), (3, .int (nI (by1 f (cb + pc))))], [], M211) _
                        have hW_220 := WH.snoc (I' := I1) hW1 hS214 hnin (by omega)
                        refine ps_st (S' := (209, [(4, .int (nI (szO (by1 f (cb + pc))))), (0, .ref m0), (2, .int (nI pc)), (3, .int (nI (by1 f (cb + pc))))], [.ref m0], M211)) rfl rfl rfl ?_
                        refine pr_ref (j := 80) (S' := (212, [(4, .int (nI (szO (by1 f (cb + pc))))), (0, .ref m0), (2, .int (nI pc)), (3, .int (nI (by1 f (cb + pc))))], [.ref (q 80)], M211)) rfl hR213 rfl rfl ?_
                        refine ps_st (S' := (213, [(4, .int (nI (szO (by1 f (cb + pc))))), (0, .ref m0), (2, .int (nI pc)), (3, .int (nI (by1 f (cb + pc))))], [.ref m0, .ref (q 80)], M211)) rfl rfl rfl ?_
                        refine ps_st (S' := (214, [(4, .int (nI (szO (by1 f (cb + pc))))), (0, .ref m0), (2, .int (nI pc)), (3, .int (nI (by1 f (cb + pc))))], [.ref m0, .ref m0, .ref (q 80)], M211)) rfl rfl rfl ?_
                        refine pr_int (j := 75) (S' := (217, [(4, .int (nI (szO (by1 f (cb + pc))))), (0, .ref m0), (2, .int (nI pc)), (3, .int (nI (by1 f (cb + pc))))], [.int (nI S.length), .ref m0, .ref (q 80)], M211)) rfl hR213 rfl hl75 rfl ?_
                        refine ps_st (S' := (218, [(4, .int (nI (szO (by1 f (cb + pc))))), (0, .ref m0), (2, .int (nI pc)), (3, .int (nI (by1 f (cb + pc))))], [.int (nI S.length), .ref m0, .int (nI S.length), .ref (q 80)], M211)) rfl rfl rfl ?_
                        refine ps_st (S' := (219, [(4, .int (nI (szO (by1 f (cb + pc))))), (0, .ref m0), (2, .int (nI pc)), (3, .int (nI (by1 f (cb + pc))))], [.int 1, .int (nI S.length), .ref m0, .int (nI S.length), .ref (q 80)], M211)) rfl rfl rfl ?_
                        refine ps_st (S' := (220, [(4, .int (nI (szO (by1 f (cb + pc))))), (0, .ref m0), (2, .int (nI pc)), (3, .int (nI (by1 f (cb + pc))))], [.int ((nI S.length) + 1), .ref m0, .int (nI S.length), .ref (q 80)], M211)) rfl rfl rfl ?_
                        rw [nI_add1 (p := S.length) (k := 1) (x := 1) rfl (by omega)]
                        show pl _ _ _ (_, [(4, .int (nI (szO (by1 f (cb + pc))))), (0, .ref m0), (2, .int (nI pc)), (3, .int (nI (by1 f (cb + pc))))], [.int (nI (S.length + 1)), .ref m0, .int (nI S.length), .ref (q 80)], M211) _
                        refine pr_put (j := 75) rfl hR213 rfl (fun M221 I222 hR223 hi224 hI225 => ?_)
                        have hi226 := (hI225 51 (by decide)).trans hl51
                        have hi227 := (hI225 52 (by decide)).trans hl52
                        have hi228 := (hI225 53 (by decide)).trans hl53
                        have hi229 := (hI225 9 (by decide)).trans hl9
                        have hi230 := (hI225 74 (by decide)).trans hl74
                        have hi231 := (hI225 77 (by decide)).trans hl77
                        have hi232 := (hI225 78 (by decide)).trans hl78
                        have hi233 := (hI225 79 (by decide)).trans hl79
                        have hi234 := (hI225 76 (by decide)).trans hl76
                        have hF_235 := hF_215.mono (pIx hI225 (by decide)) (fun _ _ => rfl)
                        have hY_236 := hY_216.mono (pIx hI225 (by decide)) (fun _ _ => rfl)
                        have hP_237 := hP_217.mono (pIx hI225 (by decide)) (fun _ _ => rfl)
                        have hB_238 := hB_218.mono (pIx hI225 (by decide)) (fun _ _ => rfl)
                        have hW_239 := hW_220.mono (pIx hI225 (by decide)) (fun _ _ => rfl)
                        have hEI240 := hEI1.put hI225 (by decide)
                        show pl _ _ _ (223, [(4, .int (nI (szO (by1 f (cb + pc))))), (0, .ref m0), (2, .int (nI pc)), (3, .int (nI (by1 f (cb + pc))))], [.int (nI S.length), .ref (q 80)], M221) _
                        refine ps_st (S' := (224, [(4, .int (nI (szO (by1 f (cb + pc))))), (0, .ref m0), (2, .int (nI pc)), (3, .int (nI (by1 f (cb + pc))))], [.int (nI pc), .int (nI S.length), .ref (q 80)], M221)) rfl rfl rfl ?_
                        refine pr_st (a := 80) (j := S.length) rfl hR223 rfl (by omega) (fun M241 R242 i1_224 hR243 hS244 => ?_)
                        have hF_245 := hF_235.mono (fun _ _ => rfl) (rRx hS244 (by decide))
                        have hY_246 := hY_236.mono (fun _ _ => rfl) (rRx hS244 (by decide))
                        have hP_247 := hP_237.mono (fun _ _ => rfl) (rRx hS244 (by decide))
                        have hW_248 := hW_239.mono (fun _ _ => rfl) (rRx hS244 (by decide))
                        have hER249 := hER219.st hS244 (by decide)
                        show pl _ _ _ (225, [(4, .int (nI (szO (by1 f (cb + pc))))), (0, .ref m0), (2, .int (nI pc)), (3, .int (nI (by1 f (cb + pc))))], [], M241) _
                        have hB_250 := BG.snoc (I' := I222) hB_238 hS244
                        refine ps_st (S' := (226, [(4, .int (nI (szO (by1 f (cb + pc))))), (0, .ref m0), (2, .int (nI pc)), (3, .int (nI (by1 f (cb + pc))))], [.int (nI pc)], M241)) rfl rfl rfl ?_
                        refine ps_st (S' := (228, [(4, .int (nI (szO (by1 f (cb + pc))))), (0, .ref m0), (2, .int (nI pc)), (3, .int (nI (by1 f (cb + pc))))], [.int (nI (szO (by1 f (cb + pc)))), .int (nI pc)], M241)) rfl rfl rfl ?_
                        refine ps_st (S' := (229, [(4, .int (nI (szO (by1 f (cb + pc))))), (0, .ref m0), (2, .int (nI pc)), (3, .int (nI (by1 f (cb + pc))))], [.int ((nI pc) + (nI (szO (by1 f (cb + pc)))))], M241)) rfl rfl rfl ?_
                        rw [nI_add1 (p := pc) (k := szO (by1 f (cb + pc))) (x := (nI (szO (by1 f (cb + pc))))) rfl (by omega)]
                        show pl _ _ _ (_, [(4, .int (nI (szO (by1 f (cb + pc))))), (0, .ref m0), (2, .int (nI pc)), (3, .int (nI (by1 f (cb + pc))))], [.int (nI (pc + szO (by1 f (cb + pc))))], M241) _
                        refine ps_st (S' := (230, [(0, .ref m0), (2, .int (nI (pc + szO (by1 f (cb + pc)))))], [], M241)) rfl rfl rfl ?_
                        refine ps_st (S' := (91, [(0, .ref m0), (2, .int (nI (pc + szO (by1 f (cb + pc)))))], [], M241)) rfl rfl rfl ?_
                        have hi75_9 : I222 75 = some (nI (S ++ [pc]).length) := by rw [List.length_append]; exact hi224
                        have hi76_9 : I222 76 = some (-1) := by rw [← hwm]; exact hi234
                        exact ih.2.1 (pc + (szO (by1 f (cb + pc)))) (S ++ [pc]) (-1) M241 I222 R242 hR243 hEI240 hER249 hi226 hi227 hi228 hi229 hi230 hi231 hi232 hi233 hi75_9 hi76_9 hF_245 hY_246 hP_247 hW_248 hB_250 (by rw [List.length_append]; simp only [List.length_cons, List.length_nil]; omega) (fun p hp => (by rcases List.mem_append.mp hp with h8 | h8; have := hlt p h8; exact ⟨by omega, this.2⟩; rw [List.mem_singleton.mp h8]; exact ⟨by omega, by omega⟩)) (Or.inl ⟨rfl, by
                            rw [← hcu, cuS_st (i := S.length) (by omega), if_neg (by omega), if_neg (by omega), hva, List.length_append]
                            rfl⟩)
                      · have c_187 : ¬ (¬ (nI (orN f n E mj cb ml pc (by1 f (cb + pc)))) = 0) := of_decide_eq_false c_187
                        have n_187 : orN f n E mj cb ml pc (by1 f (cb + pc)) = 0 := (eq_nI (p := orN f n E mj cb ml pc (by1 f (cb + pc))) (n := 0) (Nat.lt_trans (le1_or _ _ _ _ _ _ _ _) (by decide)) (by decide)).mp (Decidable.not_not.mp c_187)
                        refine ps_st (S' := (191, [(0, .ref m0), (2, .int (nI pc))], [.ref m0], M1)) rfl rfl rfl ?_
                        refine ps_st (S' := (192, [(0, .ref m0), (2, .int (nI pc))], [.int (nI pc), .ref m0], M1)) rfl rfl rfl ?_
                        refine pr_put (j := 76) rfl hR1 rfl (fun M251 I252 hR253 hi254 hI255 => ?_)
                        have hi256 := (hI255 51 (by decide)).trans hl51
                        have hi257 := (hI255 52 (by decide)).trans hl52
                        have hi258 := (hI255 53 (by decide)).trans hl53
                        have hi259 := (hI255 9 (by decide)).trans hl9
                        have hi260 := (hI255 74 (by decide)).trans hl74
                        have hi261 := (hI255 77 (by decide)).trans hl77
                        have hi262 := (hI255 78 (by decide)).trans hl78
                        have hi263 := (hI255 79 (by decide)).trans hl79
                        have hi264 := (hI255 75 (by decide)).trans hl75
                        have hF_265 := hF1.mono (pIx hI255 (by decide)) (fun _ _ => rfl)
                        have hY_266 := hY1.mono (pIx hI255 (by decide)) (fun _ _ => rfl)
                        have hP_267 := hP1.mono (pIx hI255 (by decide)) (fun _ _ => rfl)
                        have hW_268 := hW1.mono (pIx hI255 (by decide)) (fun _ _ => rfl)
                        have hB_269 := hB1.mono (pIx hI255 (by decide)) (fun _ _ => rfl)
                        have hEI270 := hEI1.put hI255 (by decide)
                        show pl _ _ _ (195, [(0, .ref m0), (2, .int (nI pc))], [], M251) _
                        refine ps_st (S' := (230, [(0, .ref m0), (2, .int (nI pc))], [], M251)) rfl rfl rfl ?_
                        refine ps_st (S' := (91, [(0, .ref m0), (2, .int (nI pc))], [], M251)) rfl rfl rfl ?_
                        exact ih.2.1 (pc) (S) (nI pc) M251 I252 R1 hR253 hEI270 hER1 hi256 hi257 hi258 hi259 hi260 hi261 hi262 hi263 hi264 hi254 hF_265 hY_266 hP_267 hW_268 hB_269 (hSp) (hlt) (Or.inr ⟨pc, by omega, rfl, by
                            rw [← hcu, cuS_st (i := S.length) (by omega), if_neg (by omega), if_pos (by rw [va_op (by omega) (by omega) (by omega) (by omega), if_pos n_187])]⟩)
                  · have c_141 : ¬ (¬ (nI (by1 f (cb + pc))) = 196) := of_decide_eq_false c_141
                    have n_141 : by1 f (cb + pc) = 196 := (eq_nI (p := by1 f (cb + pc)) (n := 196) (Nat.lt_trans (by1_lt _ _) (by decide)) (by decide)).mp (Decidable.not_not.mp c_141)
                    rw [n_141]
                    show pl _ _ _ (144, [(0, .ref m0), (2, .int (nI pc)), (3, .int (nI 196))], [], M1) _
                    refine ps_st (S' := (145, [(0, .ref m0), (2, .int (nI pc)), (3, .int (nI 196))], [.ref m0], M1)) rfl rfl rfl ?_
                    refine ps_st (S' := (146, [(0, .ref m0), (2, .int (nI pc)), (3, .int (nI 196))], [.int (nI pc), .ref m0], M1)) rfl rfl rfl ?_
                    refine ps_st (S' := (147, [(0, .ref m0), (2, .int (nI pc)), (3, .int (nI 196))], [.int (nI 196), .int (nI pc), .ref m0], M1)) rfl rfl rfl ?_
                    refine pl_call (a := [.ref m0, .int (nI pc), .int (nI 196)]) (rest := []) rfl rfl rfl (rd_formedW (n := n) (f := f) (cb := cb) (L := L) (pc := pc) hR1 hl77 hl78 hF1 (hcl) (hpc)) (fun v271 M272 q273 => ?_)
                    obtain ⟨rfl, rfl⟩ := q273
                    show pl _ _ _ (150, [(0, .ref m0), (2, .int (nI pc)), (3, .int (nI 196))], [.int (wfI f cb L pc)], M1) _
                    rcases wf_3 (f := f) (cb := cb) (L := L) (pc := pc) with hw9 | ⟨k9, hk9, hw9⟩
                    · rw [hw9]
                      show pl _ _ _ (150, [(0, .ref m0), (2, .int (nI pc)), (3, .int (nI 196))], [.int (-1)], M1) _
                      refine ps_st (S' := (163, [(0, .ref m0), (2, .int (nI pc)), (3, .int (nI 196))], [.int (-1)], M1)) rfl rfl rfl ?_
                      refine ps_st (S' := (165, [(4, .int (-1)), (0, .ref m0), (2, .int (nI pc)), (3, .int (nI 196))], [], M1)) rfl rfl rfl ?_
                      refine ps_st (S' := (167, [(4, .int (-1)), (0, .ref m0), (2, .int (nI pc)), (3, .int (nI 196))], [.int (-1)], M1)) rfl rfl rfl ?_
                      refine ps_if (S1 := (190, [(0, .ref m0), (2, .int (nI pc))], [], M1)) (S2 := (170, [(4, .int (-1)), (0, .ref m0), (2, .int (nI pc)), (3, .int (nI 196))], [], M1)) rfl rfl rfl (fun c_167 => ?_) (fun c_167 => ?_)
                      rotate_left
                      · exact absurd (by decide) (of_decide_eq_false c_167)
                      refine ps_st (S' := (191, [(0, .ref m0), (2, .int (nI pc))], [.ref m0], M1)) rfl rfl rfl ?_
                      refine ps_st (S' := (192, [(0, .ref m0), (2, .int (nI pc))], [.int (nI pc), .ref m0], M1)) rfl rfl rfl ?_
                      refine pr_put (j := 76) rfl hR1 rfl (fun M274 I275 hR276 hi277 hI278 => ?_)
                      have hi279 := (hI278 51 (by decide)).trans hl51
                      have hi280 := (hI278 52 (by decide)).trans hl52
                      have hi281 := (hI278 53 (by decide)).trans hl53
                      have hi282 := (hI278 9 (by decide)).trans hl9
                      have hi283 := (hI278 74 (by decide)).trans hl74
                      have hi284 := (hI278 77 (by decide)).trans hl77
                      have hi285 := (hI278 78 (by decide)).trans hl78
                      have hi286 := (hI278 79 (by decide)).trans hl79
                      have hi287 := (hI278 75 (by decide)).trans hl75
                      have hF_288 := hF1.mono (pIx hI278 (by decide)) (fun _ _ => rfl)
                      have hY_289 := hY1.mono (pIx hI278 (by decide)) (fun _ _ => rfl)
                      have hP_290 := hP1.mono (pIx hI278 (by decide)) (fun _ _ => rfl)
                      have hW_291 := hW1.mono (pIx hI278 (by decide)) (fun _ _ => rfl)
                      have hB_292 := hB1.mono (pIx hI278 (by decide)) (fun _ _ => rfl)
                      have hEI293 := hEI1.put hI278 (by decide)
                      show pl _ _ _ (195, [(0, .ref m0), (2, .int (nI pc))], [], M274) _
                      refine ps_st (S' := (230, [(0, .ref m0), (2, .int (nI pc))], [], M274)) rfl rfl rfl ?_
                      refine ps_st (S' := (91, [(0, .ref m0), (2, .int (nI pc))], [], M274)) rfl rfl rfl ?_
                      exact ih.2.1 (pc) (S) (nI pc) M274 I275 R1 hR276 hEI293 hER1 hi279 hi280 hi281 hi282 hi283 hi284 hi285 hi286 hi287 hi277 hF_288 hY_289 hP_290 hW_291 hB_292 (hSp) (hlt) (Or.inr ⟨pc, by omega, rfl, by
                          rw [← hcu, cuS_st (i := S.length) (by omega), if_neg (by omega), if_pos (va_wn (by omega) n_141 hw9)]⟩)
                    · rw [hw9]
                      show pl _ _ _ (150, [(0, .ref m0), (2, .int (nI pc)), (3, .int (nI 196))], [.int (nI k9)], M1) _
                      refine ps_st (S' := (163, [(0, .ref m0), (2, .int (nI pc)), (3, .int (nI 196))], [.int (nI k9)], M1)) rfl rfl rfl ?_
                      refine ps_st (S' := (165, [(4, .int (nI k9)), (0, .ref m0), (2, .int (nI pc)), (3, .int (nI 196))], [], M1)) rfl rfl rfl ?_
                      refine ps_st (S' := (167, [(4, .int (nI k9)), (0, .ref m0), (2, .int (nI pc)), (3, .int (nI 196))], [.int (nI k9)], M1)) rfl rfl rfl ?_
                      refine ps_if (S1 := (190, [(0, .ref m0), (2, .int (nI pc))], [], M1)) (S2 := (170, [(4, .int (nI k9)), (0, .ref m0), (2, .int (nI pc)), (3, .int (nI 196))], [], M1)) rfl rfl rfl (fun c_167 => ?_) (fun c_167 => ?_)
                      · exact absurd (of_decide_eq_true c_167) (nI_n0 (by omega))
                      refine ps_st (S' := (171, [(4, .int (nI k9)), (0, .ref m0), (2, .int (nI pc)), (3, .int (nI 196))], [.int (nI pc)], M1)) rfl rfl rfl ?_
                      refine ps_st (S' := (173, [(4, .int (nI k9)), (0, .ref m0), (2, .int (nI pc)), (3, .int (nI 196))], [.int (nI k9), .int (nI pc)], M1)) rfl rfl rfl ?_
                      refine ps_st (S' := (174, [(4, .int (nI k9)), (0, .ref m0), (2, .int (nI pc)), (3, .int (nI 196))], [.int ((nI pc) + (nI k9))], M1)) rfl rfl rfl ?_
                      rw [nI_add1 (p := pc) (k := k9) (x := (nI k9)) rfl (by omega)]
                      show pl _ _ _ (_, [(4, .int (nI k9)), (0, .ref m0), (2, .int (nI pc)), (3, .int (nI 196))], [.int (nI (pc + k9))], M1) _
                      refine ps_st (S' := (175, [(4, .int (nI k9)), (0, .ref m0), (2, .int (nI pc)), (3, .int (nI 196))], [.ref m0, .int (nI (pc + k9))], M1)) rfl rfl rfl ?_
                      refine pr_int (j := 78) (S' := (178, [(4, .int (nI k9)), (0, .ref m0), (2, .int (nI pc)), (3, .int (nI 196))], [.int (nI L), .int (nI (pc + k9))], M1)) rfl hR1 rfl hl78 rfl ?_
                      refine ps_if2 (S1 := (190, [(0, .ref m0), (2, .int (nI pc))], [], M1)) (S2 := (181, [(4, .int (nI k9)), (0, .ref m0), (2, .int (nI pc)), (3, .int (nI 196))], [], M1)) rfl rfl rfl (fun c_178 => ?_) (fun c_178 => ?_)
                      · have c_178 : (nI L) < (nI (pc + k9)) := of_decide_eq_true c_178
                        have n_178 : L < pc + k9 := (lt_nI (p := L) (n := pc + k9) (by omega) (by omega)).mp c_178
                        refine ps_st (S' := (191, [(0, .ref m0), (2, .int (nI pc))], [.ref m0], M1)) rfl rfl rfl ?_
                        refine ps_st (S' := (192, [(0, .ref m0), (2, .int (nI pc))], [.int (nI pc), .ref m0], M1)) rfl rfl rfl ?_
                        refine pr_put (j := 76) rfl hR1 rfl (fun M294 I295 hR296 hi297 hI298 => ?_)
                        have hi299 := (hI298 51 (by decide)).trans hl51
                        have hi300 := (hI298 52 (by decide)).trans hl52
                        have hi301 := (hI298 53 (by decide)).trans hl53
                        have hi302 := (hI298 9 (by decide)).trans hl9
                        have hi303 := (hI298 74 (by decide)).trans hl74
                        have hi304 := (hI298 77 (by decide)).trans hl77
                        have hi305 := (hI298 78 (by decide)).trans hl78
                        have hi306 := (hI298 79 (by decide)).trans hl79
                        have hi307 := (hI298 75 (by decide)).trans hl75
                        have hF_308 := hF1.mono (pIx hI298 (by decide)) (fun _ _ => rfl)
                        have hY_309 := hY1.mono (pIx hI298 (by decide)) (fun _ _ => rfl)
                        have hP_310 := hP1.mono (pIx hI298 (by decide)) (fun _ _ => rfl)
                        have hW_311 := hW1.mono (pIx hI298 (by decide)) (fun _ _ => rfl)
                        have hB_312 := hB1.mono (pIx hI298 (by decide)) (fun _ _ => rfl)
                        have hEI313 := hEI1.put hI298 (by decide)
                        show pl _ _ _ (195, [(0, .ref m0), (2, .int (nI pc))], [], M294) _
                        refine ps_st (S' := (230, [(0, .ref m0), (2, .int (nI pc))], [], M294)) rfl rfl rfl ?_
                        refine ps_st (S' := (91, [(0, .ref m0), (2, .int (nI pc))], [], M294)) rfl rfl rfl ?_
                        exact ih.2.1 (pc) (S) (nI pc) M294 I295 R1 hR296 hEI313 hER1 hi299 hi300 hi301 hi302 hi303 hi304 hi305 hi306 hi307 hi297 hF_308 hY_309 hP_310 hW_311 hB_312 (hSp) (hlt) (Or.inr ⟨pc, by omega, rfl, by
                            rw [← hcu, cuS_st (i := S.length) (by omega), if_neg (by omega), if_pos (va_wl (by omega) n_141 hw9 hk9 (by omega))]⟩)
                      · have c_178 : ¬ ((nI L) < (nI (pc + k9))) := of_decide_eq_false c_178
                        have n_178 : ¬ (L < pc + k9) := fun h9 => c_178 ((lt_nI (p := L) (n := pc + k9) (by omega) (by omega)).mpr h9)
                        refine ps_st (S' := (182, [(4, .int (nI k9)), (0, .ref m0), (2, .int (nI pc)), (3, .int (nI 196))], [.ref m0], M1)) rfl rfl rfl ?_
                        refine ps_st (S' := (183, [(4, .int (nI k9)), (0, .ref m0), (2, .int (nI pc)), (3, .int (nI 196))], [.int (nI pc), .ref m0], M1)) rfl rfl rfl ?_
                        refine ps_st (S' := (184, [(4, .int (nI k9)), (0, .ref m0), (2, .int (nI pc)), (3, .int (nI 196))], [.int (nI 196), .int (nI pc), .ref m0], M1)) rfl rfl rfl ?_
                        refine pl_call (a := [.ref m0, .int (nI pc), .int (nI 196)]) (rest := []) rfl rfl rfl (rd_op196 (n := n) (f := f) (tx := tx) (cN := cN) (A := A) (N := N) (mj := mj) (E := E) (cb := cb) (ml := ml) (s9 := s9) (pc := pc) hR1 hl51 hl52 hl53 hl77 hl79 hl9 hF1 hY1 hP1 (hEP) (hN) (hmj) (hml) (hs9) (hCP) (hPF) (by omega)) (fun v314 M315 q316 => ?_)
                        obtain ⟨rfl, rfl⟩ := q316
                        show pl _ _ _ (187, [(4, .int (nI k9)), (0, .ref m0), (2, .int (nI pc)), (3, .int (nI 196))], [.int (nI (if by1 f (cb + pc + 1) = 169 ∧ 51 ≤ mj then 0 else loN (by2 f (cb + pc + 2)) (lpO (by1 f (cb + pc + 1))) ml))], M1) _
                        show pl _ _ _ (_, [(4, .int (nI k9)), (0, .ref m0), (2, .int (nI pc)), (3, .int (nI 196))], [.int (nI (wsN f mj cb ml pc))], M1) _
                        refine ps_if (S1 := (198, [(4, .int (nI k9)), (0, .ref m0), (2, .int (nI pc)), (3, .int (nI 196))], [], M1)) (S2 := (190, [(0, .ref m0), (2, .int (nI pc))], [], M1)) rfl rfl rfl (fun c_187 => ?_) (fun c_187 => ?_)
                        · have c_187 : ¬ (nI (wsN f mj cb ml pc)) = 0 := of_decide_eq_true c_187
                          have n_187 : ¬ (wsN f mj cb ml pc = 0) := fun h9 => c_187 ((eq_nI (p := wsN f mj cb ml pc) (n := 0) (Nat.lt_trans (le1_ws _ _ _ _ _) (by decide)) (by decide)).mpr h9)
                          have hva : vaN f n E mj cb L ml pc = k9 := by rw [va_wo hpc n_141 hw9 hk9 (by omega), if_neg (show ¬ wsN f mj cb ml pc = 0 from n_187)]
                          have hsz : 1 ≤ k9 := by omega
                          have hnin : pc ∉ S := fun h9 => absurd (hlt pc h9).1 (Nat.lt_irrefl _)
                          refine ps_st (S' := (199, [(4, .int (nI k9)), (0, .ref m0), (2, .int (nI pc)), (3, .int (nI 196))], [.ref m0], M1)) rfl rfl rfl ?_
                          refine pr_ref (j := 81) (S' := (202, [(4, .int (nI k9)), (0, .ref m0), (2, .int (nI pc)), (3, .int (nI 196))], [.ref (q 81)], M1)) rfl hR1 rfl rfl ?_
                          refine ps_st (S' := (203, [(4, .int (nI k9)), (0, .ref m0), (2, .int (nI pc)), (3, .int (nI 196))], [.int (nI pc), .ref (q 81)], M1)) rfl rfl rfl ?_
                          refine ps_st (S' := (204, [(4, .int (nI k9)), (0, .ref m0), (2, .int (nI pc)), (3, .int (nI 196))], [.ref m0, .int (nI pc), .ref (q 81)], M1)) rfl rfl rfl ?_
                          refine pr_int (j := 75) (S' := (207, [(4, .int (nI k9)), (0, .ref m0), (2, .int (nI pc)), (3, .int (nI 196))], [.int (nI S.length), .int (nI pc), .ref (q 81)], M1)) rfl hR1 rfl hl75 rfl ?_
                          refine pr_st (a := 81) (j := pc) rfl hR1 rfl (by omega) (fun M317 R318 i1_207 hR319 hS320 => ?_)
                          have hF_321 := hF1.mono (fun _ _ => rfl) (rRx hS320 (by decide))
                          have hY_322 := hY1.mono (fun _ _ => rfl) (rRx hS320 (by decide))
                          have hP_323 := hP1.mono (fun _ _ => rfl) (rRx hS320 (by decide))
                          have hB_324 := hB1.mono (fun _ _ => rfl) (rRx hS320 (by decide))
                          have hER325 := hER1.st hS320 (by decide)
                          show pl _ _ _ (208, [(4, .int (nI k9)), (0, .ref m0), (2, .int (nI pc)), (3, .int (nI 196))], [], M317) _
                          have hW_326 := WH.snoc (I' := I1) hW1 hS320 hnin (by omega)
                          refine ps_st (S' := (209, [(4, .int (nI k9)), (0, .ref m0), (2, .int (nI pc)), (3, .int (nI 196))], [.ref m0], M317)) rfl rfl rfl ?_
                          refine pr_ref (j := 80) (S' := (212, [(4, .int (nI k9)), (0, .ref m0), (2, .int (nI pc)), (3, .int (nI 196))], [.ref (q 80)], M317)) rfl hR319 rfl rfl ?_
                          refine ps_st (S' := (213, [(4, .int (nI k9)), (0, .ref m0), (2, .int (nI pc)), (3, .int (nI 196))], [.ref m0, .ref (q 80)], M317)) rfl rfl rfl ?_
                          refine ps_st (S' := (214, [(4, .int (nI k9)), (0, .ref m0), (2, .int (nI pc)), (3, .int (nI 196))], [.ref m0, .ref m0, .ref (q 80)], M317)) rfl rfl rfl ?_
                          refine pr_int (j := 75) (S' := (217, [(4, .int (nI k9)), (0, .ref m0), (2, .int (nI pc)), (3, .int (nI 196))], [.int (nI S.length), .ref m0, .ref (q 80)], M317)) rfl hR319 rfl hl75 rfl ?_
                          refine ps_st (S' := (218, [(4, .int (nI k9)), (0, .ref m0), (2, .int (nI pc)), (3, .int (nI 196))], [.int (nI S.length), .ref m0, .int (nI S.length), .ref (q 80)], M317)) rfl rfl rfl ?_
                          refine ps_st (S' := (219, [(4, .int (nI k9)), (0, .ref m0), (2, .int (nI pc)), (3, .int (nI 196))], [.int 1, .int (nI S.length), .ref m0, .int (nI S.length), .ref (q 80)], M317)) rfl rfl rfl ?_
                          refine ps_st (S' := (220, [(4, .int (nI k9)), (0, .ref m0), (2, .int (nI pc)), (3, .int (nI 196))], [.int ((nI S.length) + 1), .ref m0, .int (nI S.length), .ref (q 80)], M317)) rfl rfl rfl ?_
                          rw [nI_add1 (p := S.length) (k := 1) (x := 1) rfl (by omega)]
                          show pl _ _ _ (_, [(4, .int (nI k9)), (0, .ref m0), (2, .int (nI pc)), (3, .int (nI 196))], [.int (nI (S.length + 1)), .ref m0, .int (nI S.length), .ref (q 80)], M317) _
                          refine pr_put (j := 75) rfl hR319 rfl (fun M327 I328 hR329 hi330 hI331 => ?_)
                          have hi332 := (hI331 51 (by decide)).trans hl51
                          have hi333 := (hI331 52 (by decide)).trans hl52
                          have hi334 := (hI331 53 (by decide)).trans hl53
                          have hi335 := (hI331 9 (by decide)).trans hl9
                          have hi336 := (hI331 74 (by decide)).trans hl74
                          have hi337 := (hI331 77 (by decide)).trans hl77
                          have hi338 := (hI331 78 (by decide)).trans hl78
                          have hi339 := (hI331 79 (by decide)).trans hl79
                          have hi340 := (hI331 76 (by decide)).trans hl76
                          have hF_341 := hF_321.mono (pIx hI331 (by decide)) (fun _ _ => rfl)
                          have hY_342 := hY_322.mono (pIx hI331 (by decide)) (fun _ _ => rfl)
                          have hP_343 := hP_323.mono (pIx hI331 (by decide)) (fun _ _ => rfl)
                          have hB_344 := hB_324.mono (pIx hI331 (by decide)) (fun _ _ => rfl)
                          have hW_345 := hW_326.mono (pIx hI331 (by decide)) (fun _ _ => rfl)
                          have hEI346 := hEI1.put hI331 (by decide)
                          show pl _ _ _ (223, [(4, .int (nI k9)), (0, .ref m0), (2, .int (nI pc)), (3, .int (nI 196))], [.int (nI S.length), .ref (q 80)], M327) _
                          refine ps_st (S' := (224, [(4, .int (nI k9)), (0, .ref m0), (2, .int (nI pc)), (3, .int (nI 196))], [.int (nI pc), .int (nI S.length), .ref (q 80)], M327)) rfl rfl rfl ?_
                          refine pr_st (a := 80) (j := S.length) rfl hR329 rfl (by omega) (fun M347 R348 i1_224 hR349 hS350 => ?_)
                          have hF_351 := hF_341.mono (fun _ _ => rfl) (rRx hS350 (by decide))
                          have hY_352 := hY_342.mono (fun _ _ => rfl) (rRx hS350 (by decide))
                          have hP_353 := hP_343.mono (fun _ _ => rfl) (rRx hS350 (by decide))
                          have hW_354 := hW_345.mono (fun _ _ => rfl) (rRx hS350 (by decide))
                          have hER355 := hER325.st hS350 (by decide)
                          show pl _ _ _ (225, [(4, .int (nI k9)), (0, .ref m0), (2, .int (nI pc)), (3, .int (nI 196))], [], M347) _
                          have hB_356 := BG.snoc (I' := I328) hB_344 hS350
                          refine ps_st (S' := (226, [(4, .int (nI k9)), (0, .ref m0), (2, .int (nI pc)), (3, .int (nI 196))], [.int (nI pc)], M347)) rfl rfl rfl ?_
                          refine ps_st (S' := (228, [(4, .int (nI k9)), (0, .ref m0), (2, .int (nI pc)), (3, .int (nI 196))], [.int (nI k9), .int (nI pc)], M347)) rfl rfl rfl ?_
                          refine ps_st (S' := (229, [(4, .int (nI k9)), (0, .ref m0), (2, .int (nI pc)), (3, .int (nI 196))], [.int ((nI pc) + (nI k9))], M347)) rfl rfl rfl ?_
                          rw [nI_add1 (p := pc) (k := k9) (x := (nI k9)) rfl (by omega)]
                          show pl _ _ _ (_, [(4, .int (nI k9)), (0, .ref m0), (2, .int (nI pc)), (3, .int (nI 196))], [.int (nI (pc + k9))], M347) _
                          refine ps_st (S' := (230, [(0, .ref m0), (2, .int (nI (pc + k9)))], [], M347)) rfl rfl rfl ?_
                          refine ps_st (S' := (91, [(0, .ref m0), (2, .int (nI (pc + k9)))], [], M347)) rfl rfl rfl ?_
                          have hi75_9 : I328 75 = some (nI (S ++ [pc]).length) := by rw [List.length_append]; exact hi330
                          have hi76_9 : I328 76 = some (-1) := by rw [← hwm]; exact hi340
                          exact ih.2.1 (pc + k9) (S ++ [pc]) (-1) M347 I328 R348 hR349 hEI346 hER355 hi332 hi333 hi334 hi335 hi336 hi337 hi338 hi339 hi75_9 hi76_9 hF_351 hY_352 hP_353 hW_354 hB_356 (by rw [List.length_append]; simp only [List.length_cons, List.length_nil]; omega) (fun p hp => (by rcases List.mem_append.mp hp with h8 | h8; have := hlt p h8; exact ⟨by omega, this.2⟩; rw [List.mem_singleton.mp h8]; exact ⟨by omega, by omega⟩)) (Or.inl ⟨rfl, by
                              rw [← hcu, cuS_st (i := S.length) (by omega), if_neg (by omega), if_neg (by omega), hva, List.length_append]
                              rfl⟩)
                        · have c_187 : ¬ (¬ (nI (wsN f mj cb ml pc)) = 0) := of_decide_eq_false c_187
                          have n_187 : wsN f mj cb ml pc = 0 := (eq_nI (p := wsN f mj cb ml pc) (n := 0) (Nat.lt_trans (le1_ws _ _ _ _ _) (by decide)) (by decide)).mp (Decidable.not_not.mp c_187)
                          refine ps_st (S' := (191, [(0, .ref m0), (2, .int (nI pc))], [.ref m0], M1)) rfl rfl rfl ?_
                          refine ps_st (S' := (192, [(0, .ref m0), (2, .int (nI pc))], [.int (nI pc), .ref m0], M1)) rfl rfl rfl ?_
                          refine pr_put (j := 76) rfl hR1 rfl (fun M357 I358 hR359 hi360 hI361 => ?_)
                          have hi362 := (hI361 51 (by decide)).trans hl51
                          have hi363 := (hI361 52 (by decide)).trans hl52
                          have hi364 := (hI361 53 (by decide)).trans hl53
                          have hi365 := (hI361 9 (by decide)).trans hl9
                          have hi366 := (hI361 74 (by decide)).trans hl74
                          have hi367 := (hI361 77 (by decide)).trans hl77
                          have hi368 := (hI361 78 (by decide)).trans hl78
                          have hi369 := (hI361 79 (by decide)).trans hl79
                          have hi370 := (hI361 75 (by decide)).trans hl75
                          have hF_371 := hF1.mono (pIx hI361 (by decide)) (fun _ _ => rfl)
                          have hY_372 := hY1.mono (pIx hI361 (by decide)) (fun _ _ => rfl)
                          have hP_373 := hP1.mono (pIx hI361 (by decide)) (fun _ _ => rfl)
                          have hW_374 := hW1.mono (pIx hI361 (by decide)) (fun _ _ => rfl)
                          have hB_375 := hB1.mono (pIx hI361 (by decide)) (fun _ _ => rfl)
                          have hEI376 := hEI1.put hI361 (by decide)
                          show pl _ _ _ (195, [(0, .ref m0), (2, .int (nI pc))], [], M357) _
                          refine ps_st (S' := (230, [(0, .ref m0), (2, .int (nI pc))], [], M357)) rfl rfl rfl ?_
                          refine ps_st (S' := (91, [(0, .ref m0), (2, .int (nI pc))], [], M357)) rfl rfl rfl ?_
                          exact ih.2.1 (pc) (S) (nI pc) M357 I358 R1 hR359 hEI376 hER1 hi362 hi363 hi364 hi365 hi366 hi367 hi368 hi369 hi370 hi360 hF_371 hY_372 hP_373 hW_374 hB_375 (hSp) (hlt) (Or.inr ⟨pc, by omega, rfl, by
                              rw [← hcu, cuS_st (i := S.length) (by omega), if_neg (by omega), if_pos (by rw [va_wo (by omega) n_141 hw9 hk9 (by omega), if_pos (show wsN f mj cb ml pc = 0 from n_187)])]⟩)
            · have c_116 : ¬ ((nI (by1 f (cb + pc))) ≤ 201) := of_decide_eq_false c_116
              have n_116 : ¬ (by1 f (cb + pc) ≤ 201) := fun h9 => c_116 ((le_nI (p := by1 f (cb + pc)) (n := 201) (Nat.lt_trans (by1_lt _ _) (by decide)) (by decide)).mpr h9)
              refine ps_st (S' := (120, [(3, .int (nI (by1 f (cb + pc)))), (0, .ref m0), (2, .int (nI pc))], [.int (-1)], M1)) rfl rfl rfl ?_
              refine ps_st (S' := (163, [(0, .ref m0), (2, .int (nI pc)), (3, .int (nI (by1 f (cb + pc))))], [.int (-1)], M1)) rfl rfl rfl ?_
              refine ps_st (S' := (165, [(4, .int (-1)), (0, .ref m0), (2, .int (nI pc)), (3, .int (nI (by1 f (cb + pc))))], [], M1)) rfl rfl rfl ?_
              refine ps_st (S' := (167, [(4, .int (-1)), (0, .ref m0), (2, .int (nI pc)), (3, .int (nI (by1 f (cb + pc))))], [.int (-1)], M1)) rfl rfl rfl ?_
              refine ps_if (S1 := (190, [(0, .ref m0), (2, .int (nI pc))], [], M1)) (S2 := (170, [(4, .int (-1)), (0, .ref m0), (2, .int (nI pc)), (3, .int (nI (by1 f (cb + pc))))], [], M1)) rfl rfl rfl (fun c_167 => ?_) (fun c_167 => ?_)
              rotate_left
              · exact absurd (by decide) (of_decide_eq_false c_167)
              refine ps_st (S' := (191, [(0, .ref m0), (2, .int (nI pc))], [.ref m0], M1)) rfl rfl rfl ?_
              refine ps_st (S' := (192, [(0, .ref m0), (2, .int (nI pc))], [.int (nI pc), .ref m0], M1)) rfl rfl rfl ?_
              refine pr_put (j := 76) rfl hR1 rfl (fun M377 I378 hR379 hi380 hI381 => ?_)
              have hi382 := (hI381 51 (by decide)).trans hl51
              have hi383 := (hI381 52 (by decide)).trans hl52
              have hi384 := (hI381 53 (by decide)).trans hl53
              have hi385 := (hI381 9 (by decide)).trans hl9
              have hi386 := (hI381 74 (by decide)).trans hl74
              have hi387 := (hI381 77 (by decide)).trans hl77
              have hi388 := (hI381 78 (by decide)).trans hl78
              have hi389 := (hI381 79 (by decide)).trans hl79
              have hi390 := (hI381 75 (by decide)).trans hl75
              have hF_391 := hF1.mono (pIx hI381 (by decide)) (fun _ _ => rfl)
              have hY_392 := hY1.mono (pIx hI381 (by decide)) (fun _ _ => rfl)
              have hP_393 := hP1.mono (pIx hI381 (by decide)) (fun _ _ => rfl)
              have hW_394 := hW1.mono (pIx hI381 (by decide)) (fun _ _ => rfl)
              have hB_395 := hB1.mono (pIx hI381 (by decide)) (fun _ _ => rfl)
              have hEI396 := hEI1.put hI381 (by decide)
              show pl _ _ _ (195, [(0, .ref m0), (2, .int (nI pc))], [], M377) _
              refine ps_st (S' := (230, [(0, .ref m0), (2, .int (nI pc))], [], M377)) rfl rfl rfl ?_
              refine ps_st (S' := (91, [(0, .ref m0), (2, .int (nI pc))], [], M377)) rfl rfl rfl ?_
              exact ih.2.1 (pc) (S) (nI pc) M377 I378 R1 hR379 hEI396 hER1 hi382 hi383 hi384 hi385 hi386 hi387 hi388 hi389 hi390 hi380 hF_391 hY_392 hP_393 hW_394 hB_395 (hSp) (hlt) (Or.inr ⟨pc, by omega, rfl, by
                  rw [← hcu, cuS_st (i := S.length) (by omega), if_neg (by omega), if_pos (va_big (by omega))]⟩)
      · skip
        intro k S wc M1 I1 R1 hR1 hEI1 hER1 hl51 hl52 hl53 hl9 hl74 hl77 hl78 hl79 hl75 hl76 hF1 hY1 hP1 hW1 hB1 hkS hSb hlt hw3
        have hn := hF1.1
        refine ps_st1 (S' := (236, [(0, .ref m0), (3, .int (nI k))], [.int (nI k)], M1)) rfl rfl rfl ?_
        refine ps_st (S' := (237, [(0, .ref m0), (3, .int (nI k))], [.ref m0, .int (nI k)], M1)) rfl rfl rfl ?_
        refine pr_int (j := 75) (S' := (240, [(0, .ref m0), (3, .int (nI k))], [.int (nI S.length), .int (nI k)], M1)) rfl hR1 rfl hl75 rfl ?_
        refine ps_if2 (S1 := (279, [(0, .ref m0)], [], M1)) (S2 := (243, [(0, .ref m0), (3, .int (nI k))], [], M1)) rfl rfl rfl (fun c_240 => ?_) (fun c_240 => ?_)
        · have c_240 : (nI S.length) ≤ (nI k) := of_decide_eq_true c_240
          have n_240 : S.length ≤ k := (le_nI (p := S.length) (n := k) (by omega) (by omega)).mp c_240
          refine ps_st (S' := (280, [(0, .ref m0)], [.ref m0], M1)) rfl rfl rfl ?_
          refine pr_int (j := 76) (S' := (283, [(0, .ref m0)], [.int wc], M1)) rfl hR1 rfl hl76 rfl ?_
          refine ps_if (S1 := (290, [(0, .ref m0)], [], M1)) (S2 := (286, [(0, .ref m0)], [], M1)) rfl rfl rfl (fun c_283 => ?_) (fun c_283 => ?_)
          · have c_283 : 0 ≤ wc := of_decide_eq_true c_283
            refine ps_st (S' := (291, [], [.int 0], M1)) rfl rfl rfl ?_
            obtain ⟨p, w1, w2, w3⟩ := hw3.resolve_right (fun h9 => by rw [h9.1] at c_283; exact absurd c_283 (by decide))
            rw [w2] at hl76
            exact ps_ret rfl rfl (Or.inl ⟨p, I1, R1, w3, w1, rfl, hR1, hEI1, hER1, hl74, hl77, hl78, hl79, hl76⟩)
          · have c_283 : ¬ (0 ≤ wc) := of_decide_eq_false c_283
            refine ps_st (S' := (287, [(0, .ref m0)], [.int 1], M1)) rfl rfl rfl ?_
            refine ps_st (S' := (291, [], [.int 1], M1)) rfl rfl rfl ?_
            obtain ⟨w1, hcu, hfb⟩ := hw3.resolve_left (fun h9 => by obtain ⟨p, w1, w2, w3⟩ := h9; rw [w2] at c_283; exact c_283 (Int32.not_lt.mp (nI_n0 (by omega))))
            rw [w1] at hl76
            exact ps_ret rfl rfl (Or.inr ⟨S, I1, R1, cut_r hcu (by rw [← hfb, List.drop_eq_nil_of_le (by omega)]; rfl), ⟨hSb, hlt⟩, rfl, hR1, hEI1, hER1, hl74, hl77, hl78, hl79, hl75, hl76, hW1, hB1⟩)
        · have c_240 : ¬ ((nI S.length) ≤ (nI k)) := of_decide_eq_false c_240
          have n_240 : ¬ (S.length ≤ k) := fun h9 => c_240 ((le_nI (p := S.length) (n := k) (by omega) (by omega)).mpr h9)
          refine ps_st (S' := (244, [(0, .ref m0), (3, .int (nI k))], [.ref m0], M1)) rfl rfl rfl ?_
          refine pr_int (j := 76) (S' := (247, [(0, .ref m0), (3, .int (nI k))], [.int wc], M1)) rfl hR1 rfl hl76 rfl ?_
          refine ps_if (S1 := (279, [(0, .ref m0)], [], M1)) (S2 := (250, [(0, .ref m0), (3, .int (nI k))], [], M1)) rfl rfl rfl (fun c_247 => ?_) (fun c_247 => ?_)
          · have c_247 : 0 ≤ wc := of_decide_eq_true c_247
            refine ps_st (S' := (280, [(0, .ref m0)], [.ref m0], M1)) rfl rfl rfl ?_
            refine pr_int (j := 76) (S' := (283, [(0, .ref m0)], [.int wc], M1)) rfl hR1 rfl hl76 rfl ?_
            refine ps_if (S1 := (290, [(0, .ref m0)], [], M1)) (S2 := (286, [(0, .ref m0)], [], M1)) rfl rfl rfl (fun c_283 => ?_) (fun c_283 => ?_)
            · have c_283 : 0 ≤ wc := of_decide_eq_true c_283
              refine ps_st (S' := (291, [], [.int 0], M1)) rfl rfl rfl ?_
              obtain ⟨p, w1, w2, w3⟩ := hw3.resolve_right (fun h9 => by rw [h9.1] at c_283; exact absurd c_283 (by decide))
              rw [w2] at hl76
              exact ps_ret rfl rfl (Or.inl ⟨p, I1, R1, w3, w1, rfl, hR1, hEI1, hER1, hl74, hl77, hl78, hl79, hl76⟩)
            · have c_283 : ¬ (0 ≤ wc) := of_decide_eq_false c_283
              refine ps_st (S' := (287, [(0, .ref m0)], [.int 1], M1)) rfl rfl rfl ?_
              refine ps_st (S' := (291, [], [.int 1], M1)) rfl rfl rfl ?_
              obtain ⟨w1, hcu, hfb⟩ := hw3.resolve_left (fun h9 => by obtain ⟨p, w1, w2, w3⟩ := h9; rw [w2] at c_283; exact c_283 (Int32.not_lt.mp (nI_n0 (by omega))))
              rw [w1] at hl76
              exact ps_ret rfl rfl (Or.inr ⟨S, I1, R1, cut_r hcu (absurd c_247 (by rw [w1]; decide)), ⟨hSb, hlt⟩, rfl, hR1, hEI1, hER1, hl74, hl77, hl78, hl79, hl75, hl76, hW1, hB1⟩)
          · have c_247 : ¬ (0 ≤ wc) := of_decide_eq_false c_247
            obtain ⟨hw1, hcu, hfb⟩ := hw3.resolve_left (fun h9 => by obtain ⟨p, w1, w2, w3⟩ := h9; rw [w2] at c_247; exact c_247 (Int32.not_lt.mp (nI_n0 (by omega))))
            have hmem : S.getD k 0 ∈ S := by rw [List.getD_eq_getElem?_getD, List.getElem?_eq_getElem (show k < S.length by omega)]; exact List.getElem_mem _
            have hpl9 := hlt _ hmem
            obtain ⟨x, hx⟩ := va_in hpl9.2
            refine ps_st (S' := (251, [(0, .ref m0), (3, .int (nI k))], [.ref m0], M1)) rfl rfl rfl ?_
            refine ps_st (S' := (252, [(0, .ref m0), (3, .int (nI k))], [.ref m0, .ref m0], M1)) rfl rfl rfl ?_
            refine pr_ref (j := 80) (S' := (255, [(0, .ref m0), (3, .int (nI k))], [.ref (q 80), .ref m0], M1)) rfl hR1 rfl rfl ?_
            refine ps_st (S' := (256, [(0, .ref m0), (3, .int (nI k))], [.int (nI k), .ref (q 80), .ref m0], M1)) rfl rfl rfl ?_
            refine pr_ld (a := 80) (j := k) (y := (nI (S.getD k 0))) (S' := (257, [(0, .ref m0), (3, .int (nI k))], [.int (nI (S.getD k 0)), .ref m0], M1)) rfl hR1 rfl (by omega) (fun _ => hB1 k (by omega)) rfl (fun i1_256 => ?_)
            refine pl_call (a := [.ref m0, .int (nI (S.getD k 0))]) (rest := []) rfl rfl rfl (rd_aims7 (n := n) (f := f) (cb := cb) (L := L) (pc := (S.getD k 0)) (S := S) (x := x) hR1 hl77 hl78 hF1 hW1 (hcl) (hpl9.1) (hL.2) (by omega) (fun p hp => (hlt p hp).1) (hx)) (fun v397 M398 q399 => ?_)
            obtain ⟨rfl, rfl⟩ := q399
            show pl _ _ _ (260, [(0, .ref m0), (3, .int (nI k))], [.int (nI (thN f cb S (S.getD k 0) x x.2.2.2.2.2.1 0))], M1) _
            have hth9 : thN f cb S (S.getD k 0) x x.2.2.2.2.2.1 0 < 2 := thG_le _ _
            refine ps_if (S1 := (273, [(0, .ref m0), (3, .int (nI k))], [], M1)) (S2 := (263, [(0, .ref m0), (3, .int (nI k))], [], M1)) rfl rfl rfl (fun c_260 => ?_) (fun c_260 => ?_)
            · have c_260 : ¬ (nI (thN f cb S (S.getD k 0) x x.2.2.2.2.2.1 0)) = 0 := of_decide_eq_true c_260
              have n_260 : ¬ (thN f cb S (S.getD k 0) x x.2.2.2.2.2.1 0 = 0) := fun h9 => c_260 ((eq_nI (p := thN f cb S (S.getD k 0) x x.2.2.2.2.2.1 0) (n := 0) (Nat.lt_trans (thG_le _ _) (by decide)) (by decide)).mpr h9)
              refine ps_st (S' := (276, [(3, .int ((nI k) + 1)), (0, .ref m0)], [], M1)) rfl rfl rfl ?_
              rw [nI_add1 (p := k) (k := 1) (x := 1) rfl (by omega)]
              show pl _ _ _ (_, [(3, .int (nI (k + 1))), (0, .ref m0)], [], M1) _
              refine ps_st (S' := (235, [(0, .ref m0), (3, .int (nI (k + 1)))], [], M1)) rfl rfl rfl ?_
              exact ih.2.2 (k + 1) (S) (wc) M1 I1 R1 hR1 hEI1 hER1 hl51 hl52 hl53 hl9 hl74 hl77 hl78 hl79 hl75 hl76 hF1 hY1 hP1 hW1 hB1 (by omega) (hSb) (hlt) (Or.inr ⟨hw1, hcu, by
                  rw [← hfb, fb_at (by omega) hx, if_neg n_260]⟩)
            · have c_260 : ¬ (¬ (nI (thN f cb S (S.getD k 0) x x.2.2.2.2.2.1 0)) = 0) := of_decide_eq_false c_260
              have n_260 : thN f cb S (S.getD k 0) x x.2.2.2.2.2.1 0 = 0 := (eq_nI (p := thN f cb S (S.getD k 0) x x.2.2.2.2.2.1 0) (n := 0) (Nat.lt_trans (thG_le _ _) (by decide)) (by decide)).mp (Decidable.not_not.mp c_260)
              refine ps_st (S' := (264, [(0, .ref m0), (3, .int (nI k))], [.ref m0], M1)) rfl rfl rfl ?_
              refine ps_st (S' := (265, [(0, .ref m0), (3, .int (nI k))], [.ref m0, .ref m0], M1)) rfl rfl rfl ?_
              refine pr_ref (j := 80) (S' := (268, [(0, .ref m0), (3, .int (nI k))], [.ref (q 80), .ref m0], M1)) rfl hR1 rfl rfl ?_
              refine ps_st (S' := (269, [(0, .ref m0), (3, .int (nI k))], [.int (nI k), .ref (q 80), .ref m0], M1)) rfl rfl rfl ?_
              refine pr_ld (a := 80) (j := k) (y := (nI (S.getD k 0))) (S' := (270, [(0, .ref m0), (3, .int (nI k))], [.int (nI (S.getD k 0)), .ref m0], M1)) rfl hR1 rfl (by omega) (fun _ => hB1 k (by omega)) rfl (fun i1_269 => ?_)
              refine pr_put (j := 76) rfl hR1 rfl (fun M400 I401 hR402 hi403 hI404 => ?_)
              have hi405 := (hI404 51 (by decide)).trans hl51
              have hi406 := (hI404 52 (by decide)).trans hl52
              have hi407 := (hI404 53 (by decide)).trans hl53
              have hi408 := (hI404 9 (by decide)).trans hl9
              have hi409 := (hI404 74 (by decide)).trans hl74
              have hi410 := (hI404 77 (by decide)).trans hl77
              have hi411 := (hI404 78 (by decide)).trans hl78
              have hi412 := (hI404 79 (by decide)).trans hl79
              have hi413 := (hI404 75 (by decide)).trans hl75
              have hF_414 := hF1.mono (pIx hI404 (by decide)) (fun _ _ => rfl)
              have hY_415 := hY1.mono (pIx hI404 (by decide)) (fun _ _ => rfl)
              have hP_416 := hP1.mono (pIx hI404 (by decide)) (fun _ _ => rfl)
              have hW_417 := hW1.mono (pIx hI404 (by decide)) (fun _ _ => rfl)
              have hB_418 := hB1.mono (pIx hI404 (by decide)) (fun _ _ => rfl)
              have hEI419 := hEI1.put hI404 (by decide)
              show pl _ _ _ (273, [(0, .ref m0), (3, .int (nI k))], [], M400) _
              refine ps_st (S' := (276, [(3, .int ((nI k) + 1)), (0, .ref m0)], [], M400)) rfl rfl rfl ?_
              rw [nI_add1 (p := k) (k := 1) (x := 1) rfl (by omega)]
              show pl _ _ _ (_, [(3, .int (nI (k + 1))), (0, .ref m0)], [], M400) _
              refine ps_st (S' := (235, [(0, .ref m0), (3, .int (nI (k + 1)))], [], M400)) rfl rfl rfl ?_
              exact ih.2.2 (k + 1) (S) (nI (S.getD k 0)) M400 I401 R1 hR402 hEI419 hER1 hi405 hi406 hi407 hi408 hi409 hi410 hi411 hi412 hi413 hi403 hF_414 hY_415 hP_416 hW_417 hB_418 (by omega) (hSb) (hlt) (Or.inl ⟨S.getD k 0, by omega, rfl, cut_b hcu (by
                  rw [← hfb, fb_at (by omega) hx, if_pos n_260])⟩)
  refine ps_st (S' := (1, [(0, .ref m0), (1, .int (nI m))], [.ref m0], M)) rfl rfl rfl ?_
  refine pr_int (j := 74) (S' := (4, [(0, .ref m0), (1, .int (nI m))], [.int co], M)) rfl hR rfl hi74 rfl ?_
  refine ps_st (S' := (5, [(0, .ref m0), (1, .int (nI m))], [.int (nI m), .int co], M)) rfl rfl rfl ?_
  refine ps_if2 (S1 := (21, [(0, .ref m0), (1, .int (nI m))], [], M)) (S2 := (8, [(0, .ref m0), (1, .int (nI m))], [], M)) rfl rfl rfl (fun c_5 => ?_) (fun c_5 => ?_)
  rotate_left
  · exact absurd (hne) (of_decide_eq_false c_5)
  refine ps_st (S' := (22, [(0, .ref m0), (1, .int (nI m))], [.ref m0], M)) rfl rfl rfl ?_
  refine ps_st (S' := (23, [(0, .ref m0), (1, .int (nI m))], [.int (nI m), .ref m0], M)) rfl rfl rfl ?_
  refine pr_put (j := 74) rfl hR rfl (fun M420 I421 hR422 hi423 hI424 => ?_)
  have hi425 := (hI424 51 (by decide)).trans hi51
  have hi426 := (hI424 52 (by decide)).trans hi52
  have hi427 := (hI424 53 (by decide)).trans hi53
  have hi428 := (hI424 9 (by decide)).trans hi9
  have hF_429 := hF.mono (pIx hI424 (by decide)) (fun _ _ => rfl)
  have hY_430 := hY.mono (pIx hI424 (by decide)) (fun _ _ => rfl)
  have hP_431 := hP.mono (pIx hI424 (by decide)) (fun _ _ => rfl)
  have hEI432 := hEI.put hI424 (by decide)
  show pl _ _ _ (26, [(0, .ref m0), (1, .int (nI m))], [], M420) _
  refine ps_st (S' := (27, [(0, .ref m0), (1, .int (nI m))], [.ref m0], M420)) rfl rfl rfl ?_
  refine ps_st (S' := (28, [(0, .ref m0), (1, .int (nI m))], [.ref m0, .ref m0], M420)) rfl rfl rfl ?_
  refine pr_ref (j := 37) (S' := (31, [(0, .ref m0), (1, .int (nI m))], [.ref (q 37), .ref m0], M420)) rfl hR422 rfl rfl ?_
  refine ps_st (S' := (32, [(0, .ref m0), (1, .int (nI m))], [.int (nI m), .ref (q 37), .ref m0], M420)) rfl rfl rfl ?_
  refine pr_ld (a := 37) (j := m) (y := (nI cb)) (S' := (33, [(0, .ref m0), (1, .int (nI m))], [.int (nI cb), .ref m0], M420)) rfl hR422 rfl (by omega) (fun _ => h37) rfl (fun i1_32 => ?_)
  refine pr_put (j := 77) rfl hR422 rfl (fun M433 I434 hR435 hi436 hI437 => ?_)
  have hi438 := (hI437 51 (by decide)).trans hi425
  have hi439 := (hI437 52 (by decide)).trans hi426
  have hi440 := (hI437 53 (by decide)).trans hi427
  have hi441 := (hI437 9 (by decide)).trans hi428
  have hi442 := (hI437 74 (by decide)).trans hi423
  have hF_443 := hF_429.mono (pIx hI437 (by decide)) (fun _ _ => rfl)
  have hY_444 := hY_430.mono (pIx hI437 (by decide)) (fun _ _ => rfl)
  have hP_445 := hP_431.mono (pIx hI437 (by decide)) (fun _ _ => rfl)
  have hEI446 := hEI432.put hI437 (by decide)
  show pl _ _ _ (36, [(0, .ref m0), (1, .int (nI m))], [], M433) _
  refine ps_st (S' := (37, [(0, .ref m0), (1, .int (nI m))], [.ref m0], M433)) rfl rfl rfl ?_
  refine ps_st (S' := (38, [(0, .ref m0), (1, .int (nI m))], [.ref m0, .ref m0], M433)) rfl rfl rfl ?_
  refine pr_ref (j := 38) (S' := (41, [(0, .ref m0), (1, .int (nI m))], [.ref (q 38), .ref m0], M433)) rfl hR435 rfl rfl ?_
  refine ps_st (S' := (42, [(0, .ref m0), (1, .int (nI m))], [.int (nI m), .ref (q 38), .ref m0], M433)) rfl rfl rfl ?_
  refine pr_ld (a := 38) (j := m) (y := (nI L)) (S' := (43, [(0, .ref m0), (1, .int (nI m))], [.int (nI L), .ref m0], M433)) rfl hR435 rfl (by omega) (fun _ => h38) rfl (fun i1_42 => ?_)
  refine pr_put (j := 78) rfl hR435 rfl (fun M447 I448 hR449 hi450 hI451 => ?_)
  have hi452 := (hI451 51 (by decide)).trans hi438
  have hi453 := (hI451 52 (by decide)).trans hi439
  have hi454 := (hI451 53 (by decide)).trans hi440
  have hi455 := (hI451 9 (by decide)).trans hi441
  have hi456 := (hI451 74 (by decide)).trans hi442
  have hi457 := (hI451 77 (by decide)).trans hi436
  have hF_458 := hF_443.mono (pIx hI451 (by decide)) (fun _ _ => rfl)
  have hY_459 := hY_444.mono (pIx hI451 (by decide)) (fun _ _ => rfl)
  have hP_460 := hP_445.mono (pIx hI451 (by decide)) (fun _ _ => rfl)
  have hEI461 := hEI446.put hI451 (by decide)
  show pl _ _ _ (46, [(0, .ref m0), (1, .int (nI m))], [], M447) _
  refine ps_st (S' := (47, [(0, .ref m0), (1, .int (nI m))], [.ref m0], M447)) rfl rfl rfl ?_
  refine ps_st (S' := (48, [(0, .ref m0), (1, .int (nI m))], [.ref m0, .ref m0], M447)) rfl rfl rfl ?_
  refine pr_ref (j := 40) (S' := (51, [(0, .ref m0), (1, .int (nI m))], [.ref (q 40), .ref m0], M447)) rfl hR449 rfl rfl ?_
  refine ps_st (S' := (52, [(0, .ref m0), (1, .int (nI m))], [.int (nI m), .ref (q 40), .ref m0], M447)) rfl rfl rfl ?_
  refine pr_ld (a := 40) (j := m) (y := (nI ml)) (S' := (53, [(0, .ref m0), (1, .int (nI m))], [.int (nI ml), .ref m0], M447)) rfl hR449 rfl (by omega) (fun _ => h40) rfl (fun i1_52 => ?_)
  refine pr_put (j := 79) rfl hR449 rfl (fun M462 I463 hR464 hi465 hI466 => ?_)
  have hi467 := (hI466 51 (by decide)).trans hi452
  have hi468 := (hI466 52 (by decide)).trans hi453
  have hi469 := (hI466 53 (by decide)).trans hi454
  have hi470 := (hI466 9 (by decide)).trans hi455
  have hi471 := (hI466 74 (by decide)).trans hi456
  have hi472 := (hI466 77 (by decide)).trans hi457
  have hi473 := (hI466 78 (by decide)).trans hi450
  have hF_474 := hF_458.mono (pIx hI466 (by decide)) (fun _ _ => rfl)
  have hY_475 := hY_459.mono (pIx hI466 (by decide)) (fun _ _ => rfl)
  have hP_476 := hP_460.mono (pIx hI466 (by decide)) (fun _ _ => rfl)
  have hEI477 := hEI461.put hI466 (by decide)
  show pl _ _ _ (56, [(0, .ref m0), (1, .int (nI m))], [], M462) _
  refine ps_st (S' := (57, [(0, .ref m0), (1, .int (nI m))], [.ref m0], M462)) rfl rfl rfl ?_
  refine ps_st (S' := (58, [(0, .ref m0), (1, .int (nI m))], [.int 0, .ref m0], M462)) rfl rfl rfl ?_
  refine pr_put (j := 75) rfl hR464 rfl (fun M478 I479 hR480 hi481 hI482 => ?_)
  have hi483 := (hI482 51 (by decide)).trans hi467
  have hi484 := (hI482 52 (by decide)).trans hi468
  have hi485 := (hI482 53 (by decide)).trans hi469
  have hi486 := (hI482 9 (by decide)).trans hi470
  have hi487 := (hI482 74 (by decide)).trans hi471
  have hi488 := (hI482 77 (by decide)).trans hi472
  have hi489 := (hI482 78 (by decide)).trans hi473
  have hi490 := (hI482 79 (by decide)).trans hi465
  have hF_491 := hF_474.mono (pIx hI482 (by decide)) (fun _ _ => rfl)
  have hY_492 := hY_475.mono (pIx hI482 (by decide)) (fun _ _ => rfl)
  have hP_493 := hP_476.mono (pIx hI482 (by decide)) (fun _ _ => rfl)
  have hEI494 := hEI477.put hI482 (by decide)
  show pl _ _ _ (61, [(0, .ref m0), (1, .int (nI m))], [], M478) _
  refine ps_st (S' := (62, [(0, .ref m0), (1, .int (nI m))], [.ref m0], M478)) rfl rfl rfl ?_
  refine ps_st (S' := (63, [(0, .ref m0), (1, .int (nI m))], [.int (-1), .ref m0], M478)) rfl rfl rfl ?_
  refine pr_put (j := 76) rfl hR480 rfl (fun M495 I496 hR497 hi498 hI499 => ?_)
  have hi500 := (hI499 51 (by decide)).trans hi483
  have hi501 := (hI499 52 (by decide)).trans hi484
  have hi502 := (hI499 53 (by decide)).trans hi485
  have hi503 := (hI499 9 (by decide)).trans hi486
  have hi504 := (hI499 74 (by decide)).trans hi487
  have hi505 := (hI499 77 (by decide)).trans hi488
  have hi506 := (hI499 78 (by decide)).trans hi489
  have hi507 := (hI499 79 (by decide)).trans hi490
  have hi508 := (hI499 75 (by decide)).trans hi481
  have hF_509 := hF_491.mono (pIx hI499 (by decide)) (fun _ _ => rfl)
  have hY_510 := hY_492.mono (pIx hI499 (by decide)) (fun _ _ => rfl)
  have hP_511 := hP_493.mono (pIx hI499 (by decide)) (fun _ _ => rfl)
  have hEI512 := hEI494.put hI499 (by decide)
  show pl _ _ _ (66, [(0, .ref m0), (1, .int (nI m))], [], M495) _
  refine ps_st (S' := (67, [(0, .ref m0), (1, .int (nI m))], [.int 0], M495)) rfl rfl rfl ?_
  refine ps_st (S' := (68, [(0, .ref m0), (2, .int 0)], [], M495)) rfl rfl rfl ?_
  have hW0 : WH [] 0 I496 R := WH.nil
  exact (LL kf).1 (0) M495 I496 R hR497 hEI512 hER hi500 hi501 hi502 hi503 hi504 hi505 hi506 hi507 hi508 hi498 hF_509 hY_510 hP_511 hW0 (Nat.zero_le _)
