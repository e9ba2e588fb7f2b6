/-! the class's heap by types: Y says of an address what stands there and what of it never changes (my own text) -/
section MIY
abbrev yT : Type := (Nat → Option (Nat × List Nat)) × (Nat → Nat → Int32)
def yle (Y Y' : yT) : Prop := ∀ a t, Y.1 a = some t → Y'.1 a = some t ∧ Y'.2 a = Y.2 a
theorem yle.rf {Y : yT} : yle Y Y := fun _ _ h => ⟨h, rfl⟩
theorem yle.tr {Y Y1 Y2 : yT} (h : yle Y Y1) (h' : yle Y1 Y2) : yle Y Y2 := fun a t q => ⟨(h' a t (h a t q).1).1, (h' a t (h a t q).1).2.trans (h a t q).2⟩
def vi (v : Value) : Prop := ∃ x, v = .int x
def vr (b : Nat) (v : Value) : Prop := v = .ref b
def vn (P : Nat → Prop) (v : Value) : Prop := v = .null ∨ ∃ b, v = .ref b ∧ P b
def vo (P : Nat → Prop) (v : Value) : Prop := ∃ b, v = .ref b ∧ P b
def vi9 : List (Value → Prop) := [vi, vi, vi, vi, vi, vi, vi, vi, vi]
/-- kinds: 0..10 the classes; 20 bytes, 21 ints, 23 members, 24 bytes that stay, 31..35 the pool's rows and 36 its characters, each with its pool -/
def sch (Y : yT) : Nat → List Nat → List (Value → Prop)
  | 0, [c, b, p, vd] => [vr c, vr b, vr p, vr vd, vi]
  | 1, [da, _] => [vr da]
  | 2, [c, b, p, vd, ac] => [vr c, vr b, vr p, vr vd, vr ac]
  | 3, [b, da, n] => [vr b, vo (fun p => ∃ ps, Y.1 p = some (7, ps)), vi, vi, vi, vi, vo (fun m => ∃ k, Y.1 m = some (23, [k, da, n])), vo (fun m => ∃ k, Y.1 m = some (23, [k, da, n]))] ++ vi9
  | 4, [p, o, _] => [vi, vi, vi, vi, vi, vr p, vi, vr o, vi, vn (fun a => ∃ n, Y.1 a = some (21, [n])), vn (fun a => ∃ n, Y.1 a = some (21, [n]))]
  | 5, [b, _] => [vr b, vi, vi] ++ vi9
  | 6, [_, n] => vi9 ++ [vi, vn (fun c => ∃ p o, Y.1 c = some (4, [p, o, n]))]
  | 7, [_, _, t, tp, f, s, sh, ch] => [vi, vr t, vr tp, vr f, vr s, vr sh, vr ch, vi]
  | 8, [p, vd] => [vr p, vi, vr vd]
  | 9, [c, b, vd, _] => [vr c, vr b, vr vd, vi, vi]
  | 10, [] => [vi, vi]
  | 11, [B] => [vo (fun a => ∃ m, Y.1 a = some (20, [m])), vi, vo (fun a => ∃ n, Y.1 a = some (24, [n]) ∧ n ≤ B), vn (fun c => ∃ b da n, Y.1 c = some (3, [b, da, n]) ∧ n ≤ B), vi]
  | _, _ => []
/-- what the fixed data say of each other -/
def lnk (Y : yT) (a : Nat) : Nat → List Nat → Prop
  | 0, [c, b, p, vd] => (∃ da n, Y.1 c = some (3, [b, da, n]) ∧ Y.1 b = some (1, [da, n])) ∧ (∃ ps, Y.1 p = some (7, ps)) ∧ Y.1 vd = some (10, [])
  | 1, [da, n] => Y.1 da = some (24, [n])
  | 2, [c, b, p, vd, ac] => (∃ da n, Y.1 c = some (3, [b, da, n]) ∧ Y.1 b = some (1, [da, n])) ∧ (∃ ps, Y.1 p = some (7, ps)) ∧ Y.1 vd = some (10, []) ∧ Y.1 ac = some (0, [c, b, p, vd])
  | 3, [b, da, n] => Y.1 b = some (1, [da, n])
  | 4, [p, o, k] => (∃ ps, Y.1 p = some (7, ps)) ∧ ∃ b, Y.1 o = some (5, [b, k])
  | 5, [b, _] => ∃ da n, Y.1 b = some (1, [da, n])
  | 6, [da, n] => Y.1 da = some (24, [n])
  | 7, [n, m, t, tp, f, s, sh, ch] => Y.1 t = some (31, [n, a]) ∧ Y.1 tp = some (32, [n, a]) ∧ Y.1 f = some (33, [n, a]) ∧ Y.1 s = some (34, [n, a]) ∧ Y.1 sh = some (35, [n, a]) ∧ Y.1 ch = some (36, [m, a])
  | 8, [p, vd] => (∃ ps, Y.1 p = some (7, ps)) ∧ Y.1 vd = some (10, [])
  | 9, [c, b, vd, n] => (∃ da, Y.1 c = some (3, [b, da, n]) ∧ Y.1 b = some (1, [da, n])) ∧ Y.1 vd = some (10, [])
  | _, _ => True
def fit (l : List Value) (s : List (Value → Prop)) : Prop := l.length = s.length ∧ ∀ (k : Nat) (v : Value) (P : Value → Prop), l[k]? = some v → s[k]? = some P → P v
/-- rows -/
def rowT (k : Nat) : Option FieldType := match k with
  | 20 => some .byte
  | 21 => some .int
  | 24 => some .byte
  | 31 => some .int
  | 32 => some .int
  | 33 => some .int
  | 34 => some .int
  | 35 => some .int
  | 36 => some .char
  | _ => none
def ch16 (x : Int32) : Prop := narrow .char (.int x) = .int x
def rowOk (Y : yT) (M : mi_H) (a k n : Nat) : Prop := ∃ ty f, rowT k = some ty ∧ M.1 a = some (ar ty n f) ∧ n < 1073741824 ∧ (k = 20 → ∀ i, fits .byte (.int (f i)) = true) ∧ (k = 24 → f = Y.2 a ∧ ∀ i, fits .byte (.int (f i)) = true) ∧ (k = 36 → ∀ i, ch16 (f i))
def memOk (Y : yT) (M : mi_H) (a k da n : Nat) : Prop := (k < 1073741824 ∧ 8 * k ≤ n) ∧ ∃ f : Nat → Option Nat, M.1 a = some (.inl (.object "ClassGate$Member", k, fun i => some (va_rf (f i)))) ∧ ∀ i b, f i = some b → Y.1 b = some (6, [da, n])
/-- attributes that lie within the first n bytes: how many are left, from where -/
def AW (f : Nat → Int32) (n : Nat) : Nat → Int32 → Prop
  | 0, a => 0 ≤ a.toInt ∧ a.toInt ≤ n
  | k + 1, a => 0 ≤ a.toInt ∧ a.toInt + 6 ≤ n ∧ 0 ≤ (sp_u4 n f (a + 2)).toInt ∧ a.toInt + 6 + (sp_u4 n f (a + 2)).toInt ≤ n ∧ AW f n k (a + 6 + sp_u4 n f (a + 2))
/-- more than types: a text lies within the characters; the reader within the file; attributes too -/
def txt (n m : Nat) (f : Nat → Nat → Int32) (cc : Int32) : Prop := 0 ≤ cc.toInt ∧ cc.toInt ≤ m ∧ ∀ k, k < n → f 1 k = 1 → 0 ≤ (f 3 k).toInt ∧ 0 ≤ (f 4 k).toInt ∧ (f 3 k).toInt + (f 4 k).toInt ≤ cc.toInt
def xtr (Y : yT) (M : mi_H) (l : List Value) : Nat → List Nat → Prop
  | 1, [_, n] => n ≤ 65540
  | 4, [_, _, k] => k ≤ 65540 ∧ ∃ x : Int32, l[2]? = some (.int x) ∧ 0 ≤ x.toInt ∧ x.toInt ≤ k
  | 5, [_, k] => k < 1073741824 ∧ ∃ x : Int32, l[2]? = some (.int x) ∧ 0 ≤ x.toInt ∧ x.toInt ≤ k
  | 6, [da, n] => ∃ x y : Int32, l[4]? = some (.int x) ∧ l[5]? = some (.int y) ∧ 0 ≤ x.toInt ∧ AW (Y.2 da) n x.toInt.toNat y
  | 7, [n, m, t, _, f, s, _, _] => n < 1073741824 ∧ m < 1073741824 ∧ ∃ (cc sz : Int32) (g1 g3 g4 : Nat → Int32), l[7]? = some (.int cc) ∧ l[0]? = some (.int sz) ∧ sz.toInt ≤ 65535 ∧ M.1 t = some (ar .int n g1) ∧ M.1 f = some (ar .int n g3) ∧ M.1 s = some (ar .int n g4) ∧ txt n m (fun i => if i = 1 then g1 else if i = 3 then g3 else g4) cc
  | 9, [_, _, _, n] => ∃ x : Int32, l[3]? = some (.int x) ∧ 0 ≤ x.toInt ∧ x.toInt ≤ n
  | _, _ => True
def okY (Y : yT) (M : mi_H) (a k : Nat) (ps : List Nat) : Prop :=
  (k < 12 ∧ ∃ l, M.1 a = some (ob k l) ∧ sch Y k ps ≠ [] ∧ fit l (sch Y k ps) ∧ lnk Y a k ps ∧ xtr Y M l k ps) ∨ (∃ n r, ps = n :: r ∧ rowOk Y M a k n) ∨ (k = 23 ∧ ∃ n da m, ps = [n, da, m] ∧ memOk Y M a n da m)
def litOk (g : xe_G) (M : mi_H) : Prop := ∀ k, k < 15 → g.2.1 k < M.2.1 ∧ ∃ f : Nat × (Nat → Option Value), M.1 (g.2.1 k) = some (.inr (100 + f.1 % 30, f.2))
def WF (g : xe_G) (Y : yT) (M : mi_H) : Prop := (∀ a k ps, Y.1 a = some (k, ps) → okY Y M a k ps) ∧ (∀ a t, Y.1 a = some t → a < M.2.1) ∧ litOk g M
theorem okY.obj {Y : yT} {M : mi_H} {a k : Nat} {ps : List Nat} (h : okY Y M a k ps) (hk : k < 12) : ∃ l, M.1 a = some (ob k l) ∧ sch Y k ps ≠ [] ∧ fit l (sch Y k ps) ∧ lnk Y a k ps ∧ xtr Y M l k ps := by
  rcases h with ⟨-, h⟩ | ⟨n, r, -, ty, f, h1, -⟩ | ⟨h1, -⟩
  · exact h
  · exfalso
    unfold rowT at h1
    split at h1 <;> first | omega | cases h1
  · omega
theorem okY.row {Y : yT} {M : mi_H} {a k n : Nat} {r : List Nat} {ty : FieldType} (h : okY Y M a k (n :: r)) (hk : rowT k = some ty) : rowOk Y M a k n := by
  rcases h with ⟨h1, -⟩ | ⟨n', r', e, h⟩ | ⟨h1, -⟩
  · exfalso
    unfold rowT at hk
    split at hk <;> first | omega | cases hk
  · cases e
    exact h
  · subst h1
    cases hk
variable {g : xe_G} {Y : yT} {M : mi_H}
/-- a field is read -/
theorem WF.get {a k j : Nat} {ps : List Nat} {P : Value → Prop} (h : WF g Y M) (hY : Y.1 a = some (k, ps)) (hk : k < 12) (hP : (sch Y k ps)[j]? = some P) : ∃ v, mi_gf M a k j = some v ∧ P v := by
  obtain ⟨l, h1, -, ⟨h2, h3⟩, -⟩ := (h.1 a k ps hY).obj hk
  have hj : j < l.length := by rw [h2]; exact (List.getElem?_eq_some_iff.mp hP).1
  exact ⟨l[j], gf_ob h1 (List.getElem?_eq_getElem hj), h3 j _ P (List.getElem?_eq_getElem hj) hP⟩
theorem WF.int {a k j : Nat} {ps : List Nat} (h : WF g Y M) (hY : Y.1 a = some (k, ps)) (hk : k < 12) (hP : (sch Y k ps)[j]? = some vi) : ∃ x, mi_gf M a k j = some (.int x) := by
  obtain ⟨v, h1, x, rfl⟩ := h.get hY hk hP
  exact ⟨x, h1⟩
theorem WF.ref {a k j b : Nat} {ps : List Nat} (h : WF g Y M) (hY : Y.1 a = some (k, ps)) (hk : k < 12) (hP : (sch Y k ps)[j]? = some (vr b)) : mi_gf M a k j = some (.ref b) := by
  obtain ⟨v, h1, h2⟩ := h.get hY hk hP
  rw [h1, h2]
theorem WF.cls {a k : Nat} {ps : List Nat} (h : WF g Y M) (hY : Y.1 a = some (k, ps)) (hk : k < 12) : ∃ l, M.1 a = some (ob k l) := by
  obtain ⟨l, h1, -⟩ := (h.1 a k ps hY).obj hk
  exact ⟨l, h1⟩
theorem okc_t {pc na ci b : Nat} {lv : List (Nat × Value)} {st As : List Value} {ps : List Nat} (h1 : (st.take na).reverse = .ref b :: As) (h2 : decide (na ≤ st.length) = true) (h3 : decide (((st.drop na).map fun v => v.category).sum ≤ 8) = true) (h : WF g Y M) (hY : Y.1 b = some (ci, ps)) (hk : ci < 12) : mi_okc (some ci) na (pc, lv, st, M) = true := by
  obtain ⟨l, hl⟩ := h.cls hY hk
  exact okc_v h1 h2 h3 hl
/-- the bytes of a file -/
theorem WF.bytes {b da n : Nat} (h : WF g Y M) (hY : Y.1 b = some (1, [da, n])) : BY M b da n (Y.2 da) ∧ ∀ i, fits .byte (.int (Y.2 da i)) = true := by
  obtain ⟨l, h1, -, ⟨h2, h3⟩, h4, h5⟩ := (h.1 b 1 _ hY).obj (by decide)
  obtain ⟨ty, f, g1, g2, -, -, g3, -⟩ := (h.1 da 24 _ h4).row rfl
  cases g1
  obtain ⟨rfl, g4⟩ := g3 rfl
  refine ⟨⟨?_, g2, by have h6 : n ≤ 65540 := h5; omega⟩, g4⟩
  rcases l with _ | ⟨v, _ | ⟨w, l⟩⟩
  · cases h2
  · have := h3 0 v _ rfl rfl
    rw [h1, this]
  · simp [sch] at h2
/-- the pool -/
theorem WF.pool {p : Nat} {pp : List Nat} (h : WF g Y M) (hY : Y.1 p = some (7, pp)) : ∃ (size : Int32) (n m : Nat) (q : Nat → Nat) (f : Nat → Nat → Int32) (cc : Int32), PL M p size n m q f cc ∧ txt n m f cc ∧ n < 1073741824 ∧ m < 1073741824 ∧ size.toInt ≤ 65535 ∧ (∀ i, ch16 (f 6 i)) ∧ pp = [n, m, q 1, q 2, q 3, q 4, q 5, q 6] := by
  obtain ⟨l, h1, h0, ⟨h2, h3⟩, h4, h5⟩ := (h.1 p 7 _ hY).obj (by decide)
  rcases pp with _ | ⟨n, _ | ⟨m, _ | ⟨t, _ | ⟨tp, _ | ⟨f, _ | ⟨s, _ | ⟨sh, _ | ⟨ch, _ | ⟨z, pp⟩⟩⟩⟩⟩⟩⟩⟩⟩
  any_goals exact absurd rfl h0
  obtain ⟨k1, k2, k3, k4, k5, k6⟩ := h4
  obtain ⟨j1, j2, cc, sz, g1, g3, g4, e7, e0, hs, m1, m3, m4, hx⟩ := h5
  obtain ⟨ty2, f2, a2, b2, -⟩ := (h.1 _ _ _ k2).row (ty := .int) rfl
  obtain ⟨ty5, f5, a5, b5, -⟩ := (h.1 _ _ _ k5).row (ty := .int) rfl
  obtain ⟨ty6, f6, a6, b6, -, -, -, c6⟩ := (h.1 _ _ _ k6).row (ty := .char) rfl
  cases a2
  cases a5
  cases a6
  refine ⟨sz, n, m, fun i => if i = 1 then t else if i = 2 then tp else if i = 3 then f else if i = 4 then s else if i = 5 then sh else ch, fun i => if i = 1 then g1 else if i = 2 then f2 else if i = 3 then g3 else if i = 4 then g4 else if i = 5 then f5 else f6, cc, ⟨?_, ?_, b6⟩, hx, j1, j2, hs, c6 rfl, rfl⟩
  · rcases l with _ | ⟨v0, _ | ⟨v1, _ | ⟨v2, _ | ⟨v3, _ | ⟨v4, _ | ⟨v5, _ | ⟨v6, _ | ⟨v7, _ | ⟨v8, l⟩⟩⟩⟩⟩⟩⟩⟩⟩
    any_goals (simp [sch] at h2; done)
    rw [h1]
    have r1 : v1 = .ref t := h3 1 v1 _ rfl rfl
    have r2 : v2 = .ref tp := h3 2 v2 _ rfl rfl
    have r3 : v3 = .ref f := h3 3 v3 _ rfl rfl
    have r4 : v4 = .ref s := h3 4 v4 _ rfl rfl
    have r5 : v5 = .ref sh := h3 5 v5 _ rfl rfl
    have r6 : v6 = .ref ch := h3 6 v6 _ rfl rfl
    have r7 : v7 = .int cc := Option.some.inj e7
    have r0 : v0 = .int sz := Option.some.inj e0
    subst r0 r1 r2 r3 r4 r5 r6 r7
    rfl
  · intro i hi1 hi5
    have : i = 1 ∨ i = 2 ∨ i = 3 ∨ i = 4 ∨ i = 5 := by omega
    rcases this with rfl | rfl | rfl | rfl | rfl
    · exact m1
    · exact b2
    · exact m3
    · exact m4
    · exact b5
end MIY
