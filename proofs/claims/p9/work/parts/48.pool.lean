/-! the pool is written (my own text) -/
section MIP
variable {g : xe_G} {Y : yT} {M : mi_H}
def qd (q : Nat → Nat) : Prop := ∀ i j, 1 ≤ i → i ≤ 6 → 1 ≤ j → j ≤ 6 → i ≠ j → q i ≠ q j
theorem WF.qd {p n m : Nat} {q : Nat → Nat} (h : WF g Y M) (hY : Y.1 p = some (7, [n, m, q 1, q 2, q 3, q 4, q 5, q 6])) : qd q ∧ ∀ i, 1 ≤ i → i ≤ 6 → ∃ r, Y.1 (q i) = some (30 + i, r :: [p]) := by
  obtain ⟨k1, k2, k3, k4, k5, k6⟩ := h.lnk hY (by decide)
  have hq : ∀ i, 1 ≤ i → i ≤ 6 → ∃ r, Y.1 (q i) = some (30 + i, r :: [p]) := by
    intro i hi1 hi6
    have : i = 1 ∨ i = 2 ∨ i = 3 ∨ i = 4 ∨ i = 5 ∨ i = 6 := by omega
    rcases this with rfl | rfl | rfl | rfl | rfl | rfl
    · exact ⟨_, k1⟩
    · exact ⟨_, k2⟩
    · exact ⟨_, k3⟩
    · exact ⟨_, k4⟩
    · exact ⟨_, k5⟩
    · exact ⟨_, k6⟩
  refine ⟨fun i j hi1 hi6 hj1 hj6 hij => ?_, hq⟩
  obtain ⟨r1, h1⟩ := hq i hi1 hi6
  obtain ⟨r2, h2⟩ := hq j hj1 hj6
  exact ykne h1 h2 (by omega)
theorem PL.up {p i : Nat} {size : Int32} {n m : Nat} {q : Nat → Nat} {f : Nat → Nat → Int32} {cc : Int32} {f' : Nat → Int32} (hP : PL M p size n m q f cc) (hQ : qd q) (h1 : 1 ≤ i) (h5 : i ≤ 5) : PL (up M (q i) (ar .int n f')) p size n m q (fun j => if j = i then f' else f j) cc := by
  refine ⟨up_eq hP.1 (fun e => ?_), fun j hj1 hj5 => ?_, ?_⟩
  · have := hP.2.1 i h1 h5
    rw [← e, hP.1] at this
    simp [ob, ar] at this
  · by_cases e : j = i
    · subst e
      simp only [if_true]
      exact up_at
    · simp only [e, if_false]
      exact up_eq (hP.2.1 j hj1 hj5) (hQ j i hj1 (by omega) h1 (by omega) e)
  · have : (6 : Nat) ≠ i := by omega
    simp only [this, if_false]
    exact up_eq hP.2.2 (hQ 6 i (by omega) (by omega) h1 (by omega) this)
/-- a pool is written: its rows and its count; all else as it was -/
theorem WF.poolset {M' : mi_H} {p : Nat} {size : Int32} {n m : Nat} {q : Nat → Nat} {f' : Nat → Nat → Int32} {cc' : Int32} (hW : WF g Y M) (hY : Y.1 p = some (7, [n, m, q 1, q 2, q 3, q 4, q 5, q 6])) (hF : ∀ z, z ≠ p → (∀ i, 1 ≤ i → i ≤ 6 → z ≠ q i) → M'.1 z = M.1 z) (h2 : M'.2 = M.2) (hP : PL M' p size n m q f' cc') (hT : txt n m f' cc') (hs : size.toInt ≤ 65535) (hc : ∀ i, ch16 (f' 6 i)) : st g Y M M' := by
  obtain ⟨hQ, hq⟩ := hW.qd hY
  have hl := hW.lnk hY (by decide)
  have hnm : n < 1073741824 ∧ m < 1073741824 := by
    obtain ⟨l, -, -, -, -, h5⟩ := (hW.1 p 7 _ hY).obj (by decide)
    exact ⟨h5.1, h5.2.1⟩
  have hoth : ∀ b kb pb, Y.1 b = some (kb, pb) → b ≠ p → (∀ i, 1 ≤ i → i ≤ 6 → b ≠ q i) → M'.1 b = M.1 b := fun b kb pb _ h3 h4 => hF b h3 h4
  refine ⟨⟨fun b kb pb hb => ?_, fun a t ha => by rw [h2]; exact hW.2.1 a t ha, ?_⟩, h2, fun x hx => ?_⟩
  · by_cases e : b = p
    · subst e
      cases hY.symm.trans hb
      refine Or.inl ⟨by decide, _, hP.1, by simp [sch], ⟨rfl, fun k v P h3 h4 => ?_⟩, hl, hnm.1, hnm.2, cc', size, f' 1, f' 3, f' 4, rfl, rfl, hs, hP.2.1 1 (by decide) (by decide), hP.2.1 3 (by decide) (by decide), hP.2.1 4 (by decide) (by decide), hT⟩
      have hk : k = 0 ∨ k = 1 ∨ k = 2 ∨ k = 3 ∨ k = 4 ∨ k = 5 ∨ k = 6 ∨ k = 7 := by
        have := (List.getElem?_eq_some_iff.mp h3).1
        simp at this
        omega
      rcases hk with rfl | rfl | rfl | rfl | rfl | rfl | rfl | rfl <;> cases h3 <;> cases h4
      · exact ⟨_, rfl⟩
      · rfl
      · rfl
      · rfl
      · rfl
      · rfl
      · rfl
      · exact ⟨_, rfl⟩
    · by_cases e2 : ∃ i, 1 ≤ i ∧ i ≤ 6 ∧ b = q i
      · obtain ⟨i, hi1, hi6, rfl⟩ := e2
        obtain ⟨r, hr⟩ := hq i hi1 hi6
        cases hr.symm.trans hb
        refine Or.inr (Or.inl ⟨r, [p], rfl, ?_⟩)
        have hi : i = 1 ∨ i = 2 ∨ i = 3 ∨ i = 4 ∨ i = 5 ∨ i = 6 := by omega
        obtain ⟨k1, k2, k3, k4, k5, k6⟩ := hl
        rcases hi with rfl | rfl | rfl | rfl | rfl | rfl
        · cases k1.symm.trans hr
          exact ⟨.int, f' 1, rfl, hP.2.1 1 (by decide) (by decide), hnm.1, fun h => absurd h (by decide), fun h => absurd h (by decide), fun h => absurd h (by decide)⟩
        · cases k2.symm.trans hr
          exact ⟨.int, f' 2, rfl, hP.2.1 2 (by decide) (by decide), hnm.1, fun h => absurd h (by decide), fun h => absurd h (by decide), fun h => absurd h (by decide)⟩
        · cases k3.symm.trans hr
          exact ⟨.int, f' 3, rfl, hP.2.1 3 (by decide) (by decide), hnm.1, fun h => absurd h (by decide), fun h => absurd h (by decide), fun h => absurd h (by decide)⟩
        · cases k4.symm.trans hr
          exact ⟨.int, f' 4, rfl, hP.2.1 4 (by decide) (by decide), hnm.1, fun h => absurd h (by decide), fun h => absurd h (by decide), fun h => absurd h (by decide)⟩
        · cases k5.symm.trans hr
          exact ⟨.int, f' 5, rfl, hP.2.1 5 (by decide) (by decide), hnm.1, fun h => absurd h (by decide), fun h => absurd h (by decide), fun h => absurd h (by decide)⟩
        · cases k6.symm.trans hr
          exact ⟨.char, f' 6, rfl, hP.2.2, hnm.2, fun h => absurd h (by decide), fun h => absurd h (by decide), fun _ => hc⟩
      · have e3 : ∀ i, 1 ≤ i → i ≤ 6 → b ≠ q i := fun i h3 h4 h5 => e2 ⟨i, h3, h4, h5⟩
        have hbM := hF b e e3
        rcases hW.1 b kb pb hb with ⟨hk0, l, h3, h4, h5, h6, h7⟩ | ⟨n', r', e', ty', f0, h3, h4, h5⟩ | ⟨hk0, n', da, m', e', hn, f0, h3, h4⟩
        · refine Or.inl ⟨hk0, l, hbM.trans h3, h4, h5, h6, ?_⟩
          unfold xtr at h7 ⊢
          split at h7
          · exact h7
          · exact h7
          · exact h7
          · exact h7
          · rename_i n2 m2 t2 tp2 f2 s2 sh2 ch2
            obtain ⟨a1, a2, cc, sz, g1, g3, g4, b1, b2, b3, b4, b5, b6, b7⟩ := h7
            obtain ⟨k1, k2, k3, k4, k5, k6⟩ := h6
            have ne : ∀ z kz nz, Y.1 z = some (kz, [nz, b]) → 31 ≤ kz → z ≠ p ∧ ∀ i, 1 ≤ i → i ≤ 6 → z ≠ q i := by
              intro z kz nz hz hkz
              refine ⟨ykne hz hY (by omega), fun i hi1 hi6 ez => ?_⟩
              obtain ⟨r, hr⟩ := hq i hi1 hi6
              rw [ez, hr] at hz
              simp only [Option.some.injEq, Prod.mk.injEq, List.cons.injEq, and_true] at hz
              exact e hz.2.2.symm
            have x1 := ne _ _ _ k1 (by decide)
            have x3 := ne _ _ _ k3 (by decide)
            have x4 := ne _ _ _ k4 (by decide)
            exact ⟨a1, a2, cc, sz, g1, g3, g4, b1, b2, b3, (hF _ x1.1 x1.2).trans b4, (hF _ x3.1 x3.2).trans b5, (hF _ x4.1 x4.2).trans b6, b7⟩
          · exact h7
          · trivial
        · exact Or.inr (Or.inl ⟨n', r', e', ty', f0, h3, hbM.trans h4, h5⟩)
        · exact Or.inr (Or.inr ⟨hk0, n', da, m', e', hn, f0, hbM.trans h3, h4⟩)
  · intro k hk
    obtain ⟨hb, fl, hfl⟩ := hW.2.2 k hk
    refine ⟨by rw [h2]; exact hb, fl, (hF _ ?_ ?_).trans hfl⟩
    · intro e
      obtain ⟨l, h3⟩ := hW.cls hY (by decide)
      rw [e, h3] at hfl
      simp [ob] at hfl
      omega
    · intro i hi1 hi6 e
      obtain ⟨r, hr⟩ := hq i hi1 hi6
      rcases hW.1 _ _ _ hr with ⟨h3, -⟩ | ⟨n', r', e', ty', f0, h3, h4, h5⟩ | ⟨h3, -⟩
      · omega
      · rw [e, h4] at hfl
        simp [ar] at hfl
      · omega
  · refine hF x (fun e => ?_) (fun i hi1 hi6 e => ?_)
    · rw [e, hY] at hx
      cases hx
    · obtain ⟨r, hr⟩ := hq i hi1 hi6
      rw [e, hr] at hx
      cases hx
theorem ch16_nar (x : Int32) : ch16 (vp_nar .char (Int32.toUInt32 x % 65536).toInt32) := by
  have h := pk_nc x
  unfold ch16 vp_nar
  rw [h]
  exact h
end MIP
