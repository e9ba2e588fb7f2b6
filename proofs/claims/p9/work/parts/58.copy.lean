/-! a row of bytes is copied (my own text) -/
section MIH
variable {g : xe_G} {Y : yT} {M : mi_H} {d : Nat}
theorem cpy_some {f f' : Nat → Int32} {a b n : Nat} : va_cpy (fun i => some (Value.int (f i))) (fun i => some (Value.int (f' i))) a b n = fun i => some (Value.int (va_cpy f f' a b n i)) := by
  funext i
  unfold va_cpy
  split <;> rfl
theorem ct_copyOf {a0 m : Nat} {f : Nat → Int32} {x1 : Int32} (h : M.1 a0 = some (ar .byte m f)) (hf : ∀ i, fits .byte (.int (f i)) = true) (hg : a0 ≠ g.1) (hg2 : M.2.1 ≠ g.1) (h0 : 0 ≤ x1.toInt) (h1 : x1.toInt ≤ 134217728) (hm : m < 1073741824) (hne : x1 ≠ nI m) (hl : a0 < M.2.1) (hd : 1 ≤ d) :
    mt (mT g) d 258 [.ref a0, .int x1] M (fun v M' => v = some (.ref M.2.1) ∧ ∃ f', (∀ i, fits .byte (.int (f' i)) = true) ∧ M' = mk1 M (ar .byte x1.toNatClampNeg f') x1.toNatClampNeg) := by
  obtain ⟨d, rfl⟩ : ∃ e, d = e + 1 := ⟨d - 1, by omega⟩
  refine mt_in (b := mb_258 g) rfl rfl ?_
  show ml (mT g) d (mb_258 g).2 (0, [(0, .ref a0), (1, .int x1)], [], M) _
  refine ml_blk 2 (S' := (2, [(0, .ref a0), (1, .int x1)], [.ref a0, .int x1], M)) rfl ?_
  refine mo_alen (S' := (3, [(0, .ref a0), (1, .int x1)], [.int (nI m), .int x1], M)) rfl h rfl ?_
  refine ml_if2 (S1 := (14, [(0, .ref a0), (1, .int x1)], [], M)) (S2 := (6, [(0, .ref a0), (1, .int x1)], [], M)) rfl rfl rfl (fun c_3 => ?_) (fun c_3 => ?_)
  rotate_left
  · exact absurd hne (of_decide_eq_false c_3)
  refine ml_st (S' := (15, [(0, .ref a0), (1, .int x1)], [.int x1], M)) rfl rfl rfl ?_
  refine ml_newa (S' := (17, [(0, .ref a0), (1, .int x1)], [.ref M.2.1], mk1 M (ar .byte x1.toNatClampNeg (fun _ => 0)) x1.toNatClampNeg)) rfl h0 h1 rfl ?_
  have k0 : (mk1 M (ar .byte x1.toNatClampNeg (fun _ => 0)) x1.toNatClampNeg).1 a0 = some (ar .byte m f) := (mk1_ne (Nat.ne_of_lt hl)).trans h
  have k1 : (mk1 M (ar .byte x1.toNatClampNeg (fun _ => 0)) x1.toNatClampNeg).1 M.2.1 = some (ar .byte x1.toNatClampNeg (fun _ => 0)) := mk1_at
  have k2 : ∀ c, up (mk1 M (ar .byte x1.toNatClampNeg (fun _ => 0)) x1.toNatClampNeg) M.2.1 c = mk1 M c x1.toNatClampNeg := fun c => mk1_up
  generalize mk1 M (ar .byte x1.toNatClampNeg (fun _ => 0)) x1.toNatClampNeg = M1 at k0 k1 k2 ⊢
  refine ml_st (S' := (18, [(2, .ref M.2.1), (0, .ref a0), (1, .int x1)], [], M1)) rfl rfl rfl ?_
  refine ml_blk 5 (S' := (23, [(2, .ref M.2.1), (0, .ref a0), (1, .int x1)], [.ref a0, .int 0, .ref M.2.1, .int 0, .ref a0], M1)) rfl ?_
  refine mo_alen (S' := (24, [(2, .ref M.2.1), (0, .ref a0), (1, .int x1)], [.int (nI m), .int 0, .ref M.2.1, .int 0, .ref a0], M1)) rfl k0 rfl ?_
  refine ml_blk 2 (S' := (28, [(2, .ref M.2.1), (0, .ref a0), (1, .int x1)], [.int (if x1 < nI m then x1 else nI m), .int 0, .ref M.2.1, .int 0, .ref a0], M1)) rfl ?_
  have hmn : 0 ≤ (if x1 < nI m then x1 else nI m).toInt ∧ (if x1 < nI m then x1 else nI m).toInt ≤ m ∧ (if x1 < nI m then x1 else nI m).toInt ≤ x1.toInt := by
    have e := nI_val hm
    split
    · rename_i q
      have := i_lt q
      omega
    · rename_i q
      have := i_nlt q
      omega
  generalize (if x1 < nI m then x1 else nI m) = n9 at hmn ⊢
  have hN : (n9.toNatClampNeg : Int) = n9.toInt := by
    show ((n9.toInt.toNat : Nat) : Int) = _
    omega
  have hX : (x1.toNatClampNeg : Int) = x1.toInt := by
    show ((x1.toInt.toNat : Nat) : Int) = _
    omega
  have z0 : Int32.toNatClampNeg 0 = 0 := rfl
  refine ml_st (S1 := (31, [(2, .ref M.2.1), (0, .ref a0), (1, .int x1)], [], mk1 M (ar .byte x1.toNatClampNeg (va_cpy f (fun _ => 0) 0 0 n9.toNatClampNeg)) x1.toNatClampNeg)) (S' := (31, [(2, .ref M.2.1), (0, .ref a0), (1, .int x1)], [], mk1 M (ar .byte x1.toNatClampNeg (va_cpy f (fun _ => 0) 0 0 n9.toNatClampNeg)) x1.toNatClampNeg)) rfl ?_ rfl ?_
  · simp only [o_acopy2, ga_ar k0, ga_ar k1]
    rw [if_pos ⟨Ne.symm (Nat.ne_of_lt hl), hg, hg2, by decide, by decide, nlt0 hmn.1, by rw [z0]; omega, by rw [z0]; omega, by decide, List.all_eq_true.mpr (fun i _ => hf _)⟩]
    rw [← k2, z0, cpy_some]
    rfl
  · refine ml_st (S' := (32, [(2, .ref M.2.1), (0, .ref a0), (1, .int x1)], [.ref M.2.1], mk1 M (ar .byte x1.toNatClampNeg (va_cpy f (fun _ => 0) 0 0 n9.toNatClampNeg)) x1.toNatClampNeg)) rfl rfl rfl ?_
    refine ml_ret rfl rfl ⟨rfl, _, fun i => ?_, rfl⟩
    unfold va_cpy
    split
    · exact hf _
    · rfl
/-- what is known of a row that has no type yet -/
theorem WF.note {a : Nat} {f : Nat → Int32} (h : WF g Y M) (ha : Y.1 a = none) : WF g (Y.1, fun x => if x = a then f else Y.2 x) M ∧ yle Y (Y.1, fun x => if x = a then f else Y.2 x) := by
  have hl : yle Y (Y.1, fun x => if x = a then f else Y.2 x) := by
    intro b t hb
    refine ⟨hb, ?_⟩
    show (if b = a then f else Y.2 b) = Y.2 b
    rw [if_neg]
    intro e
    rw [e, ha] at hb
    cases hb
  exact ⟨⟨fun b k ps hb => (h.1 b k ps hb).mono hl hb, h.2.1, h.2.2⟩, hl⟩
def Gr (m m' : Nat) (c : Int) : Prop := (m' = m ∨ (m' : Int) < 2 * (c + 4)) ∧ m ≤ m' ∧ (m % 5 ≠ 0 → m' % 5 ≠ 0)
theorem Gr.tr {m m1 m2 : Nat} {c c' : Int} (h : Gr m m1 c) (h' : Gr m1 m2 c') (hc : c ≤ c') : Gr m m2 c' := by
  obtain ⟨a1, a2, a3⟩ := h
  obtain ⟨b1, b2, b3⟩ := h'
  refine ⟨?_, by omega, fun q => b3 (a3 q)⟩
  rcases b1 with rfl | b1
  · rcases a1 with rfl | a1
    · exact Or.inl rfl
    · exact Or.inr (by omega)
  · exact Or.inr b1
theorem fits_b (y : Int8) : fits .byte (.int y.toInt32) = true := by
  have h1 := Int8.le_toInt y
  have h2 := Int8.toInt_lt y
  have e : y.toInt32.toInt = y.toInt := Int8.toInt_toInt32 y
  have a : (-128 : Int32) ≤ y.toInt32 := Int32.le_iff_toInt_le.mpr (by rw [e]; have : (-128 : Int32).toInt = -128 := rfl; omega)
  have b : y.toInt32 ≤ (127 : Int32) := Int32.le_iff_toInt_le.mpr (by rw [e]; have : (127 : Int32).toInt = 127 := rfl; omega)
  show (decide ((-128 : Int32) ≤ y.toInt32) && decide (y.toInt32 ≤ 127)) = true
  rw [decide_eq_true a, decide_eq_true b]
  rfl
theorem tk_i {cc : Int32} {m : Nat} {k : Int32} (h0 : 0 ≤ cc.toInt) (h1 : cc.toInt + 4 ≤ m) (hm : m < 1073741824) (hk : 0 ≤ k.toInt) (hk3 : k.toInt ≤ 3) : vp_in (cc + k) m := by
  have e : (cc + k).toInt = cc.toInt + k.toInt := i_add (by omega) (by omega)
  rintro (q | q)
  · exact nlt0 (by omega) q
  · have : m ≤ (cc + k).toInt.toNat := q
    omega
theorem tk_i0 {cc : Int32} {m : Nat} (h0 : 0 ≤ cc.toInt) (h1 : cc.toInt + 4 ≤ m) (hm : m < 1073741824) : vp_in cc m := by
  rintro (q | q)
  · exact nlt0 (by omega) q
  · have : m ≤ cc.toInt.toNat := q
    omega
theorem WF.gst {a n : Nat} (h : WF g Y M) (hY : Y.1 a = some (20, [n])) : ∃ f, M.1 a = some (ar .byte n f) ∧ (∀ i, fits .byte (.int (f i)) = true) ∧ n < 1073741824 ∧ a < M.2.1 := by
  obtain ⟨ty, f, h2, h3, h4, h5, -⟩ := (h.1 a _ _ hY).row (ty := .byte) rfl
  cases h2
  exact ⟨f, h3, h5 rfl, h4, h.2.1 _ _ hY⟩
theorem okY_came {n : Nat} {f : Nat → Int32} {N : Nat} (hn : n < 1073741824) (hf : ∀ i, fits .byte (.int (f i)) = true) : okY (yadd Y M.2.1 20 [n]) (mk1 M (ar .byte n f) N) M.2.1 20 [n] :=
  Or.inr (Or.inl ⟨n, [], rfl, .byte, f, rfl, mk1_at, hn, fun _ => hf, fun q => absurd q (by decide), fun q => absurd q (by decide)⟩)
theorem okY_file {n : Nat} {f : Nat → Int32} {N : Nat} (hn : n < 1073741824) (hf : ∀ i, fits .byte (.int (f i)) = true) : okY (yadd (Y.1, fun x => if x = M.2.1 then f else Y.2 x) M.2.1 24 [n]) (mk1 M (ar .byte n f) N) M.2.1 24 [n] :=
  Or.inr (Or.inl ⟨n, [], rfl, .byte, f, rfl, mk1_at, hn, fun q => absurd q (by decide), fun _ => ⟨by show f = (if M.2.1 = M.2.1 then f else Y.2 M.2.1); rw [if_pos rfl], hf⟩, fun q => absurd q (by decide)⟩)
theorem sn_file {n N : Nat} {f : Nat → Int32} (h : WF g Y M) (hn : n < 1073741824) (hf : ∀ i, fits .byte (.int (f i)) = true) : sn g Y M (yadd (Y.1, fun x => if x = M.2.1 then f else Y.2 x) M.2.1 24 [n]) (mk1 M (ar .byte n f) N) 1 N := by
  obtain ⟨h1, h2⟩ := h.note (f := f) (h.fresh (Nat.le_refl M.2.1))
  have h3 := sn.new (N := N) h1 (okY_file hn hf)
  exact ⟨h3.1, h2.tr h3.2.1, h3.2.2.1, h3.2.2.2.1, h3.2.2.2.2⟩
theorem mm_file {T : Nat → Option (Nat × mi_B)} {pc : Nat} {tb : mi_B} {lv : List (Nat × Value)} {s0 : List Value} {Q : Option Value → mi_H → Prop} {n N : Nat} {f : Nat → Int32} (h : WF g Y M) (hn : n < 1073741824) (hf : ∀ i, fits .byte (.int (f i)) = true) (kk : ∀ Y2 M2 b, b = M.2.1 → sn g Y M Y2 M2 1 N → Y2.1 b = some (24, [n]) → ml T d tb (pc, lv, .ref b :: s0, M2) Q) : ml T d tb (pc, lv, .ref M.2.1 :: s0, mk1 M (ar .byte n f) N) Q :=
  kk _ _ _ rfl (sn_file h hn hf) yadd_at
end MIH
