/-! the reference: questions about a cut code (my own text) -/
section MIA8
theorem CUT.mono {f : Nat → Int32} {n : Nat} {I I' : rI} {R R' : rR} (h : CUT f n I R) (hI : ∀ k, k ∈ [75, 76, 77, 78, 79] → I' k = I k) (hR : ∀ k, k ∈ [80, 81] → R' k = R k) : CUT f n I' R' := by
  obtain ⟨ca, cl, wc, mx, mn, h1, h2, h3, h4, h5, h6, h7⟩ := h
  refine ⟨ca, cl, wc, mx, mn, ⟨(hI 77 (by decide)).trans h1.1, (hI 78 (by decide)).trans h1.2.1, h1.2.2⟩, (hI 75 (by decide)).trans h2, (hI 76 (by decide)).trans h3, (hI 79 (by decide)).trans h4, h5, h6.eq (hR 81 (by decide)), fun k hk => ?_⟩
  rw [hR 80 (by decide)]
  exact h7 k hk
def CUO (f : Nat → Int32) (n : Nat) (co : Int32) (I : rI) (R : rR) : Prop := co = -1 ∨ CUT f n I R
theorem CUO.mono {f : Nat → Int32} {n : Nat} {co : Int32} {I I' : rI} {R R' : rR} (h : CUO f n co I R) (hI : ∀ k, k ∈ [75, 76, 77, 78, 79] → I' k = I k) (hR : ∀ k, k ∈ [80, 81] → R' k = R k) : CUO f n co I' R' := h.imp id (fun h => h.mono hI hR)
theorem CUO.of {f : Nat → Int32} {n : Nat} {co x : Int32} {I : rI} {R : rR} (h : CUO f n co I R) (hx : 0 ≤ x.toInt) (e : co = x) : CUT f n I R := h.resolve_left (fun q => by rw [← e, q] at hx; exact absurd hx (by decide))
theorem INS.lt {f : Nat → Int32} {ca cl p : Int32} (h : INS f ca cl p) : p.toInt + 1 ≤ cl.toInt := by
  obtain ⟨h0, nn, h1, h2, -⟩ := h
  omega
theorem INS.sw {f : Nat → Int32} {ca cl p : Int32} (h : INS f ca cl p) (ho : f1 f (ca + p) = 170 ∨ f1 f (ca + p) = 171) : SWF f ca cl p := by
  obtain ⟨h0, nn, h1, h2, h3, h4, h5⟩ := h
  exact h5 ho
theorem SWF.p8 {f : Nat → Int32} {ca cl p : Int32} (h : SWF f ca cl p) (ho : f1 f (ca + p) = 170 ∨ f1 f (ca + p) = 171) : (pd p).toInt + 8 ≤ cl.toInt := by
  rcases ho with e | e
  · have := (h.1 e).1
    omega
  · exact (h.2 e).1
def GDI : List Nat := [3, 8, 16, 25, 26, 49, 51, 52, 53, 54, 58, 61, 65, 66, 67, 68, 69, 70, 71, 72]
def GDR : List Nat := [1, 4, 5, 12, 21, 22, 27, 28, 29, 30, 31, 32, 33, 34, 35, 36, 37, 38, 39, 40, 41, 42, 43, 44, 45, 46]
theorem GD.mono {n : Nat} {f : Nat → Int32} {I I' : rI} {R R' : rR} (h : GD n f I R) (hI : ∀ k, k ∈ GDI → I' k = I k) (hR : ∀ k, k ∈ GDR → R' k = R k) : GD n f I' R' := by
  obtain ⟨S, cN, sa, sl, ch, cp, mj, pa, py, hA, fA, mA, aA, nf, ni, kf, km, hF0, hY0, hP0, hE0, hFO, k54, k58, k61, hkf, k25, hfk, hkm, k26, hmk, hNk, b, c, k70, k71, hc⟩ := h
  refine ⟨S, cN, sa, sl, ch, cp, mj, pa, py, hA, fA, mA, aA, nf, ni, kf, km, hF0.mono (fun k hk => hI k ?_) (fun k hk => hR k ?_), hY0.mono (fun k hk => hI k ?_) (fun k hk => hR k ?_), hP0.mono (fun k hk => hI k ?_) (fun k hk => hR k ?_), hE0, hFO, (hI 54 (by decide)).trans k54, (hI 58 (by decide)).trans k58, (hI 61 (by decide)).trans k61, hkf, (hI 25 (by decide)).trans k25, fun x hx k hk => ?_, hkm, (hI 26 (by decide)).trans k26, fun x hx => ?_, fun k hk => ?_, b, c, (hI 70 (by decide)).trans k70, (hI 71 (by decide)).trans k71, hc⟩
  · revert k; decide
  · revert k; decide
  · revert k; decide
  · revert k; decide
  · revert k; decide
  · revert k; decide
  · rw [hR k (by revert k; decide)]
    exact hfk x hx k hk
  · obtain ⟨h1, h2, ds, h3, h4⟩ := hmk x hx
    refine ⟨fun k hk => ?_, h2.fr (fun k hk => congrFun (hR k (by revert k; decide)) x), ds, by rw [hR 36 (by decide)]; exact h3, h4⟩
    rw [hR k (by revert k; decide)]
    exact h1 k hk
  · rw [hI k (by revert k; decide)]
    exact hNk k hk
end MIA8
