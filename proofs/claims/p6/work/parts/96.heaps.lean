/-! the small heaps at the law's entry (my own text) -/
section LWS
variable {g : xe_G} {D : va_G} {A : Nat → Prop} {s : State} {H : Heap}
/-- literals (and the empty row): all that is known at the entry -/
def lH (g : xe_G) (p : Nat → Bool) (nb : Bool) (z : Nat) : mi_H := (fun a => if nb = true ∧ a = g.1 then some (ar .byte 0 (fun _ => 0)) else ((List.range 37).find? (fun k => p k && (g.2.1 k == a))).map (fun k => .inr (100 + k, fun _ => none)), z, 0)
def pC0 (k : Nat) : Bool := decide (k < 15)
def pR0 (k : Nat) : Bool := decide (15 ≤ k ∧ k < 30)
theorem lH_rel {p : Nat → Bool} {nb : Bool} {z : Nat} (hK : va_K D vwCl [] s) (hz : H.size = z) : mi_rel g D A s (lH g p nb z) H [] [] := by
  refine ⟨hK, fun k q h => by simp at h, ⟨fun i j p q h => by simp at h, fun k q h => by simp at h⟩, hz, fun a c hc => ?_, fun k a e h => by simp at h⟩
  unfold lH at hc
  dsimp only at hc
  split at hc
  · rename_i h1
    cases hc
    exact Or.inr (Or.inl ⟨h1.2, _, rfl⟩)
  · cases h5 : (List.range 37).find? (fun k => p k && (g.2.1 k == a)) with
    | none => rw [h5] at hc; cases hc
    | some k =>
      rw [h5] at hc
      cases hc
      have h6 : p k = true ∧ g.2.1 k = a := by simpa using List.find?_some h5
      exact Or.inr (Or.inr ⟨k, _, List.mem_range.mp (List.mem_of_find?_eq_some h5), h6.2.symm, rfl⟩)
theorem lH_c {z k : Nat} (hk : k < 15) (hn : g.2.1 k ≠ g.1) : ∃ f : Nat × (Nat → Option Value), (lH g pC0 true z).1 (g.2.1 k) = some (.inr (100 + f.1 % 30, f.2)) := by
  unfold lH
  dsimp only
  rw [if_neg (fun h => hn h.2)]
  cases h5 : (List.range 37).find? (fun j => pC0 j && (g.2.1 j == g.2.1 k)) with
  | none => exact absurd (by simp [pC0, hk] : (pC0 k && (g.2.1 k == g.2.1 k)) = true) (List.find?_eq_none.mp h5 k (List.mem_range.mpr (by omega)))
  | some j =>
    have h6 : pC0 j = true ∧ g.2.1 j = g.2.1 k := by simpa using List.find?_some h5
    have h7 : j < 15 := by simpa [pC0] using h6.1
    exact ⟨(j, fun _ => none), by show some _ = some _; rw [Nat.mod_eq_of_lt (show j < 30 by omega)]⟩
theorem lH_g {p : Nat → Bool} {z : Nat} : (lH g p true z).1 g.1 = some (ar .byte 0 (fun _ => 0)) := by
  unfold lH
  dsimp only
  rw [if_pos ⟨rfl, rfl⟩]
theorem lH_r {z k : Nat} (hk : rlk k) (hi : ∀ j k, rlk j → rlk k → g.2.1 j = g.2.1 k → j = k) : (lH g pR0 false z).1 (g.2.1 k) = some (.inr (100 + k, fun _ => none)) := by
  unfold lH
  dsimp only
  rw [if_neg (fun h => by cases h.1)]
  cases h5 : (List.range 37).find? (fun j => pR0 j && (g.2.1 j == g.2.1 k)) with
  | none => exact absurd (by simp [pR0, hk.1, hk.2] : (pR0 k && (g.2.1 k == g.2.1 k)) = true) (List.find?_eq_none.mp h5 k (List.mem_range.mpr (by have := hk.2; omega)))
  | some j =>
    have h6 : pR0 j = true ∧ g.2.1 j = g.2.1 k := by simpa using List.find?_some h5
    have h7 : 15 ≤ j ∧ j < 30 := by simpa [pR0] using h6.1
    rw [hi j k h7 hk h6.2]
    rfl
theorem lx_lt {k : Nat} (hE : xe_E g A s s.heap) (hk : k < 37) : g.2.1 k < s.heap.size := by
  obtain ⟨cell, h1, -⟩ := (hE.2.2.2.2.2.2.1 k hk).2
  exact (Array.getElem?_eq_some_iff.mp h1).1
theorem lx_nb (hE : xe_E g A s s.heap) : g.1 < s.heap.size := by
  obtain ⟨cell, h1, -⟩ := hE.2.1
  exact (Array.getElem?_eq_some_iff.mp h1).1
theorem lx_ne {k : Nat} (hE : xe_E g A s s.heap) (hk : k < 30) (hz : ∃ cell : Cell, s.heap[g.1]? = some cell ∧ cell.slots.size = 0) : g.2.1 k ≠ g.1 := by
  intro e
  obtain ⟨cell, h1, h2⟩ := hz
  obtain ⟨q1, q2, q3, q4, c2, -, -, h3, -, h4, -⟩ := (hE.2.2.2.2.2.2.2.1 k hk).1
  rw [e, h1] at h3
  cases h3
  have := (Array.getElem?_eq_some_iff.mp h4).1
  omega
theorem lx_len : ∀ k, k < 30 → (xe_lt k).2.2.2.length ≤ 300 := by decide +kernel
theorem lx_tab : ∀ j, j < 30 → ∀ k, k < 30 → 15 ≤ j → 15 ≤ k → (xe_lt j).2.2.2 = (xe_lt k).2.2.2 → j = k := by decide +kernel
theorem lx_txt (hE : xe_E g A s s.heap) (j k : Nat) (hj : j < 30) (hk : k < 30) (e : g.2.1 j = g.2.1 k) : (xe_lt j).2.2.2 = (xe_lt k).2.2.2 := by
  obtain ⟨-, vj, tj⟩ := hE.2.2.2.2.2.2.2.1 j hj
  obtain ⟨-, vk, tk⟩ := hE.2.2.2.2.2.2.2.1 k hk
  obtain ⟨cf, kc, i, f, cell, a1, a2, a3, a4, a5, -⟩ := vj
  obtain ⟨cf', kc', i', f', cell', b1, b2, b3, b4, b5, -⟩ := vk
  rw [a1] at b1
  cases b1
  rw [e, b3] at a3
  cases a3
  rw [a5] at b5
  have e2 : g.2.2 j = g.2.2 k := by
    have := Option.some.inj b5
    exact Value.ref.inj this
  obtain ⟨cl, c1, c2, c3, c4, c5, c6, -⟩ := tj
  obtain ⟨cl', d1, d2, d3, d4, d5, d6, -⟩ := tk
  rw [e2, d1] at c1
  cases c1
  have l1 := lx_len j hj
  have l2 := lx_len k hk
  have hlen : (xe_lt j).2.2.2.length = (xe_lt k).2.2.2.length := by
    have h1 := congrArg Int32.toInt (c5.symm.trans d5)
    rw [Int32.toInt_ofNat_of_lt (by omega), Int32.toInt_ofNat_of_lt (by omega)] at h1
    omega
  refine List.ext_getElem hlen (fun i h1 h2 => ?_)
  have h3 := c6 i h1
  rw [d6 i h2] at h3
  have h4 := Value.int.inj (Option.some.inj h3)
  simp only [List.getD_eq_getElem?_getD, List.getElem?_eq_getElem h1, List.getElem?_eq_getElem h2, Option.getD_some] at h4
  exact h4.symm
theorem lx_inj (hE : xe_E g A s s.heap) (j k : Nat) (hj : rlk j) (hk : rlk k) (e : g.2.1 j = g.2.1 k) : j = k := lx_tab j hj.2 k hk.2 hj.1 hk.1 (lx_txt hE j k hj.2 hk.2 e)
/-- the new class -/
theorem lH_t {z k : Nat} (hE : xe_E g A s s.heap) (hk : k < 15) (hn : g.2.1 k ≠ g.1) : ∃ (k' : Nat) (fl : Nat → Option Value), k' < 30 ∧ (lH g pC0 true z).1 (g.2.1 k) = some (.inr (100 + k', fl)) ∧ (xe_lt k').2.2.2 = (xe_lt k).2.2.2 := by
  unfold lH
  dsimp only
  rw [if_neg (fun h => hn h.2)]
  cases h5 : (List.range 37).find? (fun j => pC0 j && (g.2.1 j == g.2.1 k)) with
  | none => exact absurd (by simp [pC0, hk] : (pC0 k && (g.2.1 k == g.2.1 k)) = true) (List.find?_eq_none.mp h5 k (List.mem_range.mpr (by omega)))
  | some j =>
    have h6 : pC0 j = true ∧ g.2.1 j = g.2.1 k := by simpa using List.find?_some h5
    have h7 : j < 15 := by simpa [pC0] using h6.1
    exact ⟨j, fun _ => none, by omega, rfl, lx_txt hE j k (by omega) (by omega) h6.2⟩
theorem gate0 {z : Nat} {M1 M' : mi_H} (hz : s.heap.size = z) (hE : xe_E g A s s.heap) (hsz : ∃ cell : Cell, s.heap[g.1]? = some cell ∧ cell.slots.size = 0) (hM1 : ∀ a, a ≠ z → M1.1 a = (lH g pC0 true z).1 a)
    (h1 : M'.1 z = some (ob 11 [.ref (z + 1), .int 0, .ref g.1, .null, .int (-1)])) (h2 : M'.1 (z + 1) = some (ar .byte 1024 (fun _ => 0))) (h3 : ∀ a, a ≠ z → a ≠ z + 1 → M'.1 a = M1.1 a) (h4 : M'.2.1 = z + 2) : GATX g z (0, fun _ => 0, fun _ => 0, 0, -1, none) 0 2048 M' := by
  have hg := lx_nb hE
  have hk : ∀ a, a < z → M'.1 a = (lH g pC0 true z).1 a := fun a ha => (h3 a (by omega) (by omega)).trans (hM1 a (by omega))
  have hgne : z + 1 ≠ g.1 := by omega
  have e1 : z ≠ g.1 := by omega
  refine ⟨(fun a => if a = g.1 then some (24, [0]) else none, fun _ _ => 0), z + 1, g.1, .null, fun _ => 0, 1024, 0, 0, fun k hk2 => ?_, ⟨fun a k ps ha => ?_, fun a t ha => ?_, fun k hk2 => ?_⟩, h1, if_neg e1, by omega, fun i hi => ?_, if_pos rfl, ⟨h2, if_neg hgne, by omega, fun _ => rfl, fun i hi => absurd hi (Nat.not_lt_zero i)⟩, ⟨if_pos rfl, Or.inl rfl⟩, Or.inl rfl, rfl, by decide⟩
  · have hl := lx_lt hE (show k < 37 by omega)
    obtain ⟨k', fl, a1, a2, a3⟩ := lH_t (z := z) hE hk2 (lx_ne hE (by omega) hsz)
    exact ⟨by omega, k', fl, a1, (hk _ (by omega)).trans a2, a3⟩
  · dsimp only at ha
    split at ha
    · rename_i e
      cases ha
      subst e
      exact Or.inr (Or.inl ⟨0, [], rfl, .byte, fun _ => 0, rfl, (hk g.1 (by omega)).trans lH_g, by decide, (fun h => absurd h (by decide)), (fun _ => ⟨rfl, fun _ => rfl⟩), (fun h => absurd h (by decide))⟩)
    · cases ha
  · dsimp only at ha
    split at ha
    · omega
    · cases ha
  · have hl := lx_lt hE (show k < 37 by omega)
    obtain ⟨f, hf⟩ := lH_c (z := z) hk2 (lx_ne hE (by omega) hsz)
    exact ⟨by omega, f, (hk _ (by omega)).trans hf⟩
  · have hl := lx_lt hE (show i < 37 by omega)
    omega
theorem lw_new {p : Program} {l : Launch} {e : Env} {R : Room} {m : MethodId} {args : Array Value} {below : List Frame} {meth : Method} {c : Code} {locs : List Loc} {cells slots : Nat} {Q : State → Prop} {pc : Nat} {ls : Array Slot} {rest : List Value} {own : String} {cc : ByteArray} {ci i N : Nat} {C : String} {T : u_T} {ty : Nat → FieldType} {ds : List Value} {M : mi_H} {ws : va_W} {tys : List (ClassId × FieldType)}
    (hci : ci < 100) (hc0 : vwCl[ci]? = some (C, T, N)) (hin : ∀ w ∈ u_ws C T N, w ∈ bg) (hty : ∀ k, k < N → parseFieldDescriptor (T k).2.2.1 = some (ty k)) (hcl : Cond.classLink own i C ∈ bg) (hin9 : Cond.instantiable C N ∈ bg) (hi9 : Cond.initialized C ∈ bg) (hfs : ∀ j, j < N → defaultValue (ty j) = vp_V ds j) (hdl : ds.length = N) (hd : decode cc pc = .ok (.new i, 3))
    (hx : p.tables.exec = Jvm.exec) (hb : c.code = cc) (hown : s.vm.findClass own = some m.cls) (htb : ∀ w ∈ bg, w.before args s = true) (hA : ∀ q : Nat, s.heap.size ≤ q → A q) (hE : xe_E g A s s.heap) (hr : mi_rel g D A s M H ws tys) (hS : va_S A s.heap H locs) (hc : cells + 1 ≤ R.cells) (hs : slots + N ≤ R.slots)
    (kk : ∀ H1 : Heap, mi_rel g D A s (va_up M.1 M.2.1 (some (.inr (ci, fun k => ds[k]?))), M.2.1 + 1, M.2.2 + N) H1 (ws ++ [(H.size, .inr (ci, ds))]) (tys ++ []) → H1.size = H.size + 1 → (∀ q : Nat, q < H.size → H1[q]? = H[q]?) → va_S A s.heap H1 locs → W p l e R s m args below meth c H1 locs (cells + 1) (slots + N) Q (F0 m (pc + 3) ls (.ref H.size :: rest))) : W p l e R s m args below meth c H locs cells slots Q (F0 m pc ls rest) := by
  have hKn := hr.1.1 ci _ hc0
  refine W.newcK hx hb hown (htb _ hcl) (htb _ hin9) (htb _ hi9) rfl hd hc hs hKn.2.1 rfl fun H1 kC hkC e1 z1 o1 => ?_
  refine kk H1 ?_ z1 o1 ⟨Nat.le_trans hS.1 (by omega), fun x h1 h2 => (o1 x (Nat.lt_of_lt_of_le h1 hS.1)).trans (hS.2.1 x h1 h2), hS.2.2⟩
  refine hr.push N (hA _ hS.1) (by rw [List.append_nil]; exact hr.1) ⟨mi_fresh hE hS, fun o9 h9 => by cases h9; exact hci⟩ ⟨ds, rfl, ?_, fun k v hv => hv⟩ ⟨_, hc0, (u_born ty htb hin hKn hkC e1 hty).to hfs⟩ z1 o1
  unfold mi_n
  rw [hc0]
  exact hdl
end LWS
