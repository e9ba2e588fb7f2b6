/-! the class's heap by types: Y says of an address what stands there and what of it never changes (my own text) -/
section MIY
abbrev yT : Type := Nat → Option (Nat × List Nat)
def yle (Y Y' : yT) : Prop := ∀ a t, Y a = some t → Y' a = some t
theorem yle.rf {Y : yT} : yle Y Y := fun _ _ h => h
theorem yle.tr {Y Y1 Y2 : yT} (h : yle Y Y1) (h' : yle Y1 Y2) : yle Y Y2 := fun a t q => h' a t (h a t q)
def vi (v : Value) : Prop := ∃ x, v = .int x
def vr (b : Nat) (v : Value) : Prop := v = .ref b
def vn (P : Nat → Prop) (v : Value) : Prop := v = .null ∨ ∃ b, v = .ref b ∧ P b
def vo (P : Nat → Prop) (v : Value) : Prop := ∃ b, v = .ref b ∧ P b
def vi9 : List (Value → Prop) := [vi, vi, vi, vi, vi, vi, vi, vi, vi]
/-- kinds: 0..11 the classes; 20 bytes, 21 ints, 23 members, 31..35 the pool's rows and 36 its characters, each with its pool -/
def sch (Y : yT) : Nat → List Nat → List (Value → Prop)
  | 0, [c, b, p, vd] => [vr c, vr b, vr p, vr vd, vi]
  | 1, [da, _] => [vr da]
  | 2, [c, b, p, vd, ac] => [vr c, vr b, vr p, vr vd, vr ac]
  | 3, [b, _] => [vr b, vo (fun p => ∃ ps, Y p = some (7, ps)), vi, vi, vi, vi, vo (fun m => ∃ n, Y m = some (23, [n])), vo (fun m => ∃ n, Y m = some (23, [n]))] ++ vi9
  | 4, [p, o, _] => [vi, vi, vi, vi, vi, vr p, vi, vr o, vi, vn (fun a => ∃ n, Y a = some (21, [n])), vn (fun a => ∃ n, Y a = some (21, [n]))]
  | 5, [b] => [vr b, vi, vi] ++ vi9
  | 6, [_, _] => vi9 ++ [vi, vn (fun c => ∃ ps, Y c = some (4, ps))]
  | 7, [_, _, t, tp, f, s, sh, ch] => [vi, vr t, vr tp, vr f, vr s, vr sh, vr ch, vi]
  | 8, [p, vd] => [vr p, vi, vr vd]
  | 9, [c, b, vd, _] => [vr c, vr b, vr vd, vi, vi]
  | 10, [] => [vi, vi]
  | 11, [] => [vo (fun a => ∃ n, Y a = some (20, [n])), vi, vo (fun a => ∃ n, Y a = some (20, [n])), vn (fun c => ∃ ps, Y c = some (3, ps)), vi]
  | _, _ => []
/-- what the fixed data say of each other -/
def lnk (Y : yT) (a : Nat) : Nat → List Nat → Prop
  | 0, [c, b, p, vd] => (∃ n, Y c = some (3, [b, n]) ∧ ∃ da, Y b = some (1, [da, n])) ∧ (∃ ps, Y p = some (7, ps)) ∧ Y vd = some (10, [])
  | 1, [da, n] => Y da = some (20, [n])
  | 2, [c, b, p, vd, ac] => (∃ n, Y c = some (3, [b, n]) ∧ ∃ da, Y b = some (1, [da, n])) ∧ (∃ ps, Y p = some (7, ps)) ∧ Y vd = some (10, []) ∧ Y ac = some (0, [c, b, p, vd])
  | 3, [b, n] => ∃ da, Y b = some (1, [da, n])
  | 4, [p, o, _] => (∃ ps, Y p = some (7, ps)) ∧ ∃ b, Y o = some (5, [b])
  | 5, [b] => ∃ ps, Y b = some (1, ps)
  | 7, [n, m, t, tp, f, s, sh, ch] => Y t = some (31, [n, a]) ∧ Y tp = some (32, [n, a]) ∧ Y f = some (33, [n, a]) ∧ Y s = some (34, [n, a]) ∧ Y sh = some (35, [n, a]) ∧ Y ch = some (36, [m, a])
  | 8, [p, vd] => (∃ ps, Y p = some (7, ps)) ∧ Y vd = some (10, [])
  | 9, [c, b, vd, n] => Y c = some (3, [b, n]) ∧ (∃ da, Y b = some (1, [da, n])) ∧ Y vd = some (10, [])
  | _, _ => True
def fit (l : List Value) (s : List (Value → Prop)) : Prop := l.length = s.length ∧ ∀ (k : Nat) (v : Value) (P : Value → Prop), l[k]? = some v → s[k]? = some P → P v
/-- rows -/
def rowT (k : Nat) : Option FieldType := match k with
  | 20 => some .byte
  | 21 => some .int
  | 31 => some .int
  | 32 => some .int
  | 33 => some .int
  | 34 => some .int
  | 35 => some .int
  | 36 => some .char
  | _ => none
def ch16 (x : Int32) : Prop := narrow .char (.int x) = .int x
def rowOk (M : mi_H) (a k n : Nat) : Prop := ∃ ty f, rowT k = some ty ∧ M.1 a = some (ar ty n f) ∧ (k = 20 → ∀ i, fits .byte (.int (f i)) = true) ∧ (k = 36 → ∀ i, ch16 (f i))
def memOk (Y : yT) (M : mi_H) (a n : Nat) : Prop := ∃ f : Nat → Option Nat, M.1 a = some (.inl (.object "ClassGate$Member", n, fun i => some (va_rf (f i)))) ∧ ∀ i b, f i = some b → ∃ ps, Y b = some (6, ps)
/-- more than types: a text lies within the characters; the reader within the file -/
def txt (n m : Nat) (f : Nat → Nat → Int32) (cc : Int32) : Prop := 0 ≤ cc.toInt ∧ cc.toInt ≤ m ∧ ∀ k, k < n → f 1 k = 1 → 0 ≤ (f 3 k).toInt ∧ 0 ≤ (f 4 k).toInt ∧ (f 3 k).toInt + (f 4 k).toInt ≤ cc.toInt
def xtr (M : mi_H) (l : List Value) : Nat → List Nat → Prop
  | 1, [_, n] => n < 1073741824
  | 4, [_, _, k] => ∃ x : Int32, l[2]? = some (.int x) ∧ 0 ≤ x.toInt ∧ x.toInt ≤ k
  | 7, [n, m, t, _, f, s, _, _] => n < 1073741824 ∧ m < 1073741824 ∧ ∃ (cc sz : Int32) (g1 g3 g4 : Nat → Int32), l[7]? = some (.int cc) ∧ l[0]? = some (.int sz) ∧ sz.toInt ≤ 65535 ∧ M.1 t = some (ar .int n g1) ∧ M.1 f = some (ar .int n g3) ∧ M.1 s = some (ar .int n g4) ∧ txt n m (fun i => if i = 1 then g1 else if i = 3 then g3 else g4) cc
  | 9, [_, _, _, n] => ∃ x : Int32, l[3]? = some (.int x) ∧ 0 ≤ x.toInt ∧ x.toInt ≤ n
  | _, _ => True
def okY (Y : yT) (M : mi_H) (a k : Nat) (ps : List Nat) : Prop :=
  (k < 12 ∧ ∃ l, M.1 a = some (ob k l) ∧ sch Y k ps ≠ [] ∧ fit l (sch Y k ps) ∧ lnk Y a k ps ∧ xtr M l k ps) ∨ (∃ n r, ps = n :: r ∧ rowOk M a k n) ∨ (k = 23 ∧ ∃ n, ps = [n] ∧ memOk Y M a n)
def WF (Y : yT) (M : mi_H) : Prop := (∀ a k ps, Y a = some (k, ps) → okY Y M a k ps) ∧ ∀ a t, Y a = some t → a < M.2.1
theorem okY.obj {Y : yT} {M : mi_H} {a k : Nat} {ps : List Nat} (h : okY Y M a k ps) (hk : k < 12) : ∃ l, M.1 a = some (ob k l) ∧ sch Y k ps ≠ [] ∧ fit l (sch Y k ps) ∧ lnk Y a k ps ∧ xtr M l k ps := by
  rcases h with ⟨-, h⟩ | ⟨n, r, -, ty, f, h1, -⟩ | ⟨h1, -⟩
  · exact h
  · exfalso
    unfold rowT at h1
    split at h1 <;> first | omega | cases h1
  · omega
/-- a field is read -/
theorem WF.get {Y : yT} {M : mi_H} {a k j : Nat} {ps : List Nat} {P : Value → Prop} (h : WF Y M) (hY : Y a = some (k, ps)) (hk : k < 12) (hP : (sch Y k ps)[j]? = some P) : ∃ v, mi_gf M a k j = some v ∧ P v := by
  obtain ⟨l, h1, -, ⟨h2, h3⟩, -⟩ := (h.1 a k ps hY).obj hk
  have hj : j < l.length := by rw [h2]; exact (List.getElem?_eq_some_iff.mp hP).1
  exact ⟨l[j], gf_ob h1 (List.getElem?_eq_getElem hj), h3 j _ P (List.getElem?_eq_getElem hj) hP⟩
theorem WF.int {Y : yT} {M : mi_H} {a k j : Nat} {ps : List Nat} (h : WF Y M) (hY : Y a = some (k, ps)) (hk : k < 12) (hP : (sch Y k ps)[j]? = some vi) : ∃ x, mi_gf M a k j = some (.int x) := by
  obtain ⟨v, h1, x, rfl⟩ := h.get hY hk hP
  exact ⟨x, h1⟩
theorem WF.ref {Y : yT} {M : mi_H} {a k j b : Nat} {ps : List Nat} (h : WF Y M) (hY : Y a = some (k, ps)) (hk : k < 12) (hP : (sch Y k ps)[j]? = some (vr b)) : mi_gf M a k j = some (.ref b) := by
  obtain ⟨v, h1, h2⟩ := h.get hY hk hP
  rw [h1, h2]
theorem WF.cls {Y : yT} {M : mi_H} {a k : Nat} {ps : List Nat} (h : WF Y M) (hY : Y a = some (k, ps)) (hk : k < 12) : ∃ l, M.1 a = some (ob k l) := by
  obtain ⟨l, h1, -⟩ := (h.1 a k ps hY).obj hk
  exact ⟨l, h1⟩
end MIY
