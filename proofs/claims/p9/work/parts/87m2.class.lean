/-! bytes come to the class (my own text) -/
section CPA
variable {g : xe_G} {M : mi_H} {d : Nat}
theorem ct_copyX {a0 m : Nat} {f : Nat → Int32} {x1 : Int32} (h : M.1 a0 = some (ar .byte m f)) (hf : ∀ i, fits .byte (.int (f i)) = true) (hg : a0 ≠ g.1) (hg2 : M.2.1 ≠ g.1) (h0 : 0 ≤ x1.toInt) (h1 : x1.toInt ≤ 134217728) (hm : m < 1073741824) (hne : x1 ≠ nI m) (hl : a0 < M.2.1) (hd : 1 ≤ d) :
    mt (mT g) d 258 [.ref a0, .int x1] M (fun v M' => v = some (.ref M.2.1) ∧ ∃ f', ((∀ i, fits .byte (.int (f' i)) = true) ∧ ∀ i, f' i = if i < x1.toNatClampNeg ∧ i < m then f i else 0) ∧ M' = mk1 M (ar .byte x1.toNatClampNeg f') x1.toNatClampNeg) := by
  obtain ⟨d, rfl⟩ : ∃ e, d = e + 1 := ⟨d - 1, by omega⟩
  refine mt_in (b := mb_258 g) rfl rfl ?_
  show ml (mT g) d (mb_258 g).2 (0, [(0, .ref a0), (1, .int x1)], [], M) _
  refine ml_blk 2 (S' := (2, [(0, .ref a0), (1, .int x1)], [.ref a0, .int x1], M)) rfl ?_
  refine mo_alen (S' := (3, [(0, .ref a0), (1, .int x1)], [.int (nI m), .int x1], M)) rfl h rfl ?_
  refine ml_if2 (S1 := (14, [(0, .ref a0), (1, .int x1)], [], M)) (S2 := (6, [(0, .ref a0), (1, .int x1)], [], M)) rfl rfl rfl (fun c_3 => ?_) (fun c_3 => ?_)
  rotate_left
  · exact absurd hne (of_decide_eq_false c_3)
  refine ml_st (S' := (15, [(0, .ref a0), (1, .int x1)], [.int x1], M)) rfl rfl rfl ?_
  refine ml_newa (S' := (17, [(0, .ref a0), (1, .int x1)], [.ref M.2.1], mk1 M (ar .byte x1.toNatClampNeg (fun _ => 0)) x1.toNatClampNeg)) rfl h0 h1 rfl ?_
  have k0 : (mk1 M (ar .byte x1.toNatClampNeg (fun _ => 0)) x1.toNatClampNeg).1 a0 = some (ar .byte m f) := (mk1_ne (Nat.ne_of_lt hl)).trans h
  have k1 : (mk1 M (ar .byte x1.toNatClampNeg (fun _ => 0)) x1.toNatClampNeg).1 M.2.1 = some (ar .byte x1.toNatClampNeg (fun _ => 0)) := mk1_at
  have k2 : ∀ c, up (mk1 M (ar .byte x1.toNatClampNeg (fun _ => 0)) x1.toNatClampNeg) M.2.1 c = mk1 M c x1.toNatClampNeg := fun c => mk1_up
  generalize mk1 M (ar .byte x1.toNatClampNeg (fun _ => 0)) x1.toNatClampNeg = M1 at k0 k1 k2 ⊢
  refine ml_st (S' := (18, [(2, .ref M.2.1), (0, .ref a0), (1, .int x1)], [], M1)) rfl rfl rfl ?_
  refine ml_blk 5 (S' := (23, [(2, .ref M.2.1), (0, .ref a0), (1, .int x1)], [.ref a0, .int 0, .ref M.2.1, .int 0, .ref a0], M1)) rfl ?_
  refine mo_alen (S' := (24, [(2, .ref M.2.1), (0, .ref a0), (1, .int x1)], [.int (nI m), .int 0, .ref M.2.1, .int 0, .ref a0], M1)) rfl k0 rfl ?_
  refine ml_blk 2 (S' := (28, [(2, .ref M.2.1), (0, .ref a0), (1, .int x1)], [.int (if x1 < nI m then x1 else nI m), .int 0, .ref M.2.1, .int 0, .ref a0], M1)) rfl ?_
  have hmn : 0 ≤ (if x1 < nI m then x1 else nI m).toInt ∧ (if x1 < nI m then x1 else nI m).toInt ≤ m ∧ (if x1 < nI m then x1 else nI m).toInt ≤ x1.toInt ∧ ((if x1 < nI m then x1 else nI m).toInt = m ∨ (if x1 < nI m then x1 else nI m).toInt = x1.toInt) := by
    have e := nI_val hm
    split
    · rename_i q
      have := i_lt q
      omega
    · rename_i q
      have := i_nlt q
      omega
  generalize (if x1 < nI m then x1 else nI m) = n9 at hmn ⊢
  have hN : (n9.toNatClampNeg : Int) = n9.toInt := by
    show ((n9.toInt.toNat : Nat) : Int) = _
    omega
  have hX : (x1.toNatClampNeg : Int) = x1.toInt := by
    show ((x1.toInt.toNat : Nat) : Int) = _
    omega
  have z0 : Int32.toNatClampNeg 0 = 0 := rfl
  refine ml_st (S1 := (31, [(2, .ref M.2.1), (0, .ref a0), (1, .int x1)], [], mk1 M (ar .byte x1.toNatClampNeg (va_cpy f (fun _ => 0) 0 0 n9.toNatClampNeg)) x1.toNatClampNeg)) (S' := (31, [(2, .ref M.2.1), (0, .ref a0), (1, .int x1)], [], mk1 M (ar .byte x1.toNatClampNeg (va_cpy f (fun _ => 0) 0 0 n9.toNatClampNeg)) x1.toNatClampNeg)) rfl ?_ rfl ?_
  · simp only [o_acopy2, ga_ar k0, ga_ar k1]
    rw [if_pos ⟨Ne.symm (Nat.ne_of_lt hl), hg, hg2, by decide, by decide, nlt0 hmn.1, by rw [z0]; omega, by rw [z0]; omega, by decide, List.all_eq_true.mpr (fun i _ => hf _)⟩]
    rw [← k2, z0, cpy_some]
    rfl
  · refine ml_st (S' := (32, [(2, .ref M.2.1), (0, .ref a0), (1, .int x1)], [.ref M.2.1], mk1 M (ar .byte x1.toNatClampNeg (va_cpy f (fun _ => 0) 0 0 n9.toNatClampNeg)) x1.toNatClampNeg)) rfl rfl rfl ?_
    refine ml_ret rfl rfl ⟨rfl, _, ⟨fun i => ?_, fun i => ?_⟩, rfl⟩
    · unfold va_cpy
      split
      · exact hf _
      · rfl
    · unfold va_cpy
      by_cases h9 : i < x1.toNatClampNeg ∧ i < m
      · rw [if_pos h9, if_pos (by omega)]
        congr 1
        omega
      · rw [if_neg h9, if_neg (by omega)]
theorem pt.im {T : Nat → Option (Nat × mi_B)} {y : Nat} {a : List Value} {Q Q' : Option Value → mi_H → Prop} (h : pt T y a M Q) (k : ∀ v M', Q v M' → Q' v M') : pt T y a M Q' := fun n d r hr => k _ _ (h n d r hr)
theorem upd_b {C : Nat → Int32} {i : Nat} {x : Int32} (h : ∀ i, fits .byte (.int (C i)) = true) : ∀ j, fits .byte (.int (upd C i (vp_nar .byte x) j)) = true := fun j => by
  unfold upd
  split
  · rw [vp_nar_byte]
    exact fits_b _
  · exact h j
/-- the four bytes as the class stores them -/
theorem upd4 {C : Nat → Int32} {c i : Nat} {x : Int32} (hc : c < 1073741000) (hi : i < c + 4) : upd (upd (upd (upd C (Int32.toNatClampNeg (nI c)) (vp_nar .byte (ush x 24).toInt8.toInt32)) (Int32.toNatClampNeg (nI (c + 1))) (vp_nar .byte (ush x 16).toInt8.toInt32)) (Int32.toNatClampNeg (nI (c + 2))) (vp_nar .byte (ush x 8).toInt8.toInt32)) (Int32.toNatClampNeg (nI (c + 3))) (vp_nar .byte x.toInt8.toInt32) i = wr4 C c x i := by
  rw [nI_toNat (by omega), nI_toNat (by omega), nI_toNat (by omega), nI_toNat (by omega), nar_b, nar_b, nar_b, nar_b]
  unfold upd wr4 wB
  by_cases h0 : i < c
  · rw [if_pos h0, if_neg (by omega), if_neg (by omega), if_neg (by omega), if_neg (by omega)]
  · rw [if_neg h0]
    by_cases h3 : i = c + 3
    · rw [if_pos h3, if_neg (by omega), if_neg (by omega), if_neg (by omega)]
    · rw [if_neg h3]
      by_cases h2 : i = c + 2
      · rw [if_pos h2, if_neg (by omega), if_neg (by omega), if_pos (by omega)]
      · rw [if_neg h2]
        by_cases h1 : i = c + 1
        · rw [if_pos h1, if_neg (by omega), if_pos (by omega)]
        · rw [if_neg h1, if_pos (by omega), if_pos (by omega)]
theorem wr4_cg {C C' : Nat → Int32} {c i : Nat} {x : Int32} (h : ∀ j, j < c → C' j = C j) : wr4 C' c x i = wr4 C c x i := by
  unfold wr4
  split
  · exact h i (by assumption)
  · rfl
theorem end_if {k m i : Nat} {a b : Int32} (h : k ≤ m) : (if i < k ∧ i < m then a else b) = if i < k then a else b := by
  by_cases h9 : i < k
  · rw [if_pos h9, if_pos (by omega)]
  · rw [if_neg h9, if_neg (by omega)]
end CPA
theorem dk_copyOf {g : xe_G} {M : mi_H} {m k cm : Nat} {C : Nat → Int32} (h_cm : M.1 cm = some (ar .byte m C)) (hfit : ∀ i, fits .byte (.int (C i)) = true) (hgl : g.1 < M.2.1) (hcg : cm ≠ g.1) (hk : k ≤ 134217728) (hm : m < 1073741824) (hne : ¬ k = m) (hcl : cm < M.2.1) : pt (mT g) 258 [.ref cm, .int (nI k)] M (fun v M' => (∃ (C2 : Nat → Int32), (∀ i, fits .byte (.int (C2 i)) = true) ∧ (∀ i, C2 i = if i < k ∧ i < m then C i else 0) ∧ v = some (.ref (M.2.1)) ∧ M'.1 M.2.1 = some (ar .byte k C2) ∧ gm [] M M' ∧ M'.2.1 = M.2.1 + 1)) := by
  have hk2 := nI_toNat (k := k) (by omega)
  have hkv : (nI k).toInt = k := nI_val (by omega)
  refine ((ct_copyX (d := 1) (x1 := nI k) h_cm hfit hcg (Nat.ne_of_gt hgl) (by rw [hkv]; omega) (by rw [hkv]; omega) hm (fun e => hne ((eq_nI (by omega) (by omega)).mp e)) hcl (Nat.le_refl _)).pt).im (fun v M' hq => ?_)
  obtain ⟨rfl, C2, ⟨hb, hc⟩, rfl⟩ := hq
  rw [hk2] at hc ⊢
  exact ⟨C2, hb, hc, rfl, mk1_at, ⟨fun z h1 _ => mk1_ne (Nat.ne_of_lt h1), Nat.le_succ _⟩, rfl⟩
set_option maxHeartbeats 1000000 in
theorem dk_takeWord {g : xe_G} {M : mi_H} {m cm o c fl : Nat} {C : Nat → Int32} {kv : Value} {wp : Int32} {x : Int32} (h_o : M.1 o = some (ob 11 [.ref cm, .int (nI c), .ref fl, kv, .int wp])) (h_cm : M.1 cm = some (ar .byte m C)) (hfit : ∀ i, fits .byte (.int (C i)) = true) (hgl : g.1 < M.2.1) (hcg : cm ≠ g.1) (hm : m ≤ 60000000) (hm4 : 4 ≤ m) (hc : c ≤ m) (ho : o < M.2.1) (hcl : cm < M.2.1) (hoc : ¬ o = cm) : pt (mT g) 20 [.ref o, .int x] M (fun v M' => (∃ (cm2 m2 : Nat) (C2 : Nat → Int32), (cm2 = cm ∨ M.2.1 ≤ cm2) ∧ (cm2 < M'.2.1) ∧ (c + 4 ≤ m2) ∧ (m2 = m ∨ m2 < 2 * (c + 4)) ∧ (4 ≤ m2) ∧ (∀ i, fits .byte (.int (C2 i)) = true) ∧ (∀ i, i < c + 4 → C2 i = wr4 C c x i) ∧ v = none ∧ M'.1 cm2 = some (ar .byte m2 C2) ∧ M'.1 o = some (ob 11 [.ref cm2, .int (nI (c + 4)), .ref fl, kv, .int wp]) ∧ gm [o, cm] M M' ∧ M.2.1 ≤ M'.2.1)) := by
  refine pt_in (b := mb_20 g) rfl (fun kf => ?_)
  show pl (mT g) kf (mb_20 g).2 (0, [(0, .ref o), (1, .int x)], [], M) _
  have hF : gm [o, cm] M M := gm.rf
  obtain ⟨z0, tp0⟩ : ∃ z0, M.2.1 = z0 := ⟨_, rfl⟩
  refine ps_st (S' := (1, [(0, .ref o), (1, .int x)], [.ref o], M)) rfl rfl rfl ?_
  refine ps_get (S' := (4, [(0, .ref o), (1, .int x)], [.ref cm], M)) rfl h_o rfl rfl ?_
  refine ps_alen (S' := (5, [(0, .ref o), (1, .int x)], [.int (nI m)], M)) rfl h_cm rfl ?_
  refine ps_st (S' := (6, [(0, .ref o), (1, .int x)], [.ref o, .int (nI m)], M)) rfl rfl rfl ?_
  refine ps_get (S' := (9, [(0, .ref o), (1, .int x)], [.int (nI c), .int (nI m)], M)) rfl h_o rfl rfl ?_
  refine ps_st (S' := (10, [(0, .ref o), (1, .int x)], [.int ((nI m) - (nI c))], M)) rfl rfl rfl ?_
  rw [nI_sub1 (p := m) (k := c) (x := (nI c)) rfl (by omega) (by omega)]
  show pl _ _ _ (_, [(0, .ref o), (1, .int x)], [.int (nI (m - c))], M) _
  refine ps_st (S' := (11, [(0, .ref o), (1, .int x)], [.int 4, .int (nI (m - c))], M)) rfl rfl rfl ?_
  refine ps_if2 (S1 := (32, [(0, .ref o), (1, .int x)], [], M)) (S2 := (14, [(0, .ref o), (1, .int x)], [], M)) rfl rfl rfl (fun c_11 => ?_) (fun c_11 => ?_)
  · have c_11 : 4 ≤ (nI (m - c)) := of_decide_eq_true c_11
    have n_11 : 4 ≤ m - c := (le_nI (p := 4) (n := m - c) (by decide) (by omega)).mp c_11
    refine ps_st (S' := (33, [(0, .ref o), (1, .int x)], [.ref o], M)) rfl rfl rfl ?_
    refine ps_get (S' := (36, [(0, .ref o), (1, .int x)], [.ref cm], M)) rfl h_o rfl rfl ?_
    refine ps_st (S' := (37, [(0, .ref o), (1, .int x)], [.ref o, .ref cm], M)) rfl rfl rfl ?_
    refine ps_get (S' := (40, [(0, .ref o), (1, .int x)], [.int (nI c), .ref cm], M)) rfl h_o rfl rfl ?_
    refine ps_st (S' := (41, [(0, .ref o), (1, .int x)], [.int x, .int (nI c), .ref cm], M)) rfl rfl rfl ?_
    refine ps_st (S' := (43, [(0, .ref o), (1, .int x)], [.int 24, .int x, .int (nI c), .ref cm], M)) rfl rfl rfl ?_
    refine ps_st (S' := (44, [(0, .ref o), (1, .int x)], [.int ((x.toUInt32 >>> ((24 : Int32).toUInt32 &&& Int32.toUInt32 31)).toInt32), .int (nI c), .ref cm], M)) rfl rfl rfl ?_
    refine ps_st (S' := (45, [(0, .ref o), (1, .int x)], [.int (((x.toUInt32 >>> ((24 : Int32).toUInt32 &&& Int32.toUInt32 31)).toInt32).toInt8.toInt32), .int (nI c), .ref cm], M)) rfl rfl rfl ?_
    refine ps_ast rfl h_cm (fun M1 i0_45 i1_45 h2 f3 z4 => ?_)
    have h5 := (f3 o (ob_ar h_o h_cm)).trans h_o
    have hF6 := hF.up (Or.inl (by simp)) f3 (by rw [z4]; exact Nat.le_refl _)
    have tp7 : M1.2.1 = z0 := by rw [z4]; exact tp0
    show pl _ _ _ (46, [(0, .ref o), (1, .int x)], [], M1) _
    refine ps_st (S' := (47, [(0, .ref o), (1, .int x)], [.ref o], M1)) rfl rfl rfl ?_
    refine ps_get (S' := (50, [(0, .ref o), (1, .int x)], [.ref cm], M1)) rfl h5 rfl rfl ?_
    refine ps_st (S' := (51, [(0, .ref o), (1, .int x)], [.ref o, .ref cm], M1)) rfl rfl rfl ?_
    refine ps_get (S' := (54, [(0, .ref o), (1, .int x)], [.int (nI c), .ref cm], M1)) rfl h5 rfl rfl ?_
    refine ps_st (S' := (55, [(0, .ref o), (1, .int x)], [.int 1, .int (nI c), .ref cm], M1)) rfl rfl rfl ?_
    refine ps_st (S' := (56, [(0, .ref o), (1, .int x)], [.int ((nI c) + 1), .ref cm], M1)) rfl rfl rfl ?_
    rw [nI_add1 (p := c) (k := 1) (x := 1) rfl (by omega)]
    show pl _ _ _ (_, [(0, .ref o), (1, .int x)], [.int (nI (c + 1)), .ref cm], M1) _
    refine ps_st (S' := (57, [(0, .ref o), (1, .int x)], [.int x, .int (nI (c + 1)), .ref cm], M1)) rfl rfl rfl ?_
    refine ps_st (S' := (59, [(0, .ref o), (1, .int x)], [.int 16, .int x, .int (nI (c + 1)), .ref cm], M1)) rfl rfl rfl ?_
    refine ps_st (S' := (60, [(0, .ref o), (1, .int x)], [.int ((x.toUInt32 >>> ((16 : Int32).toUInt32 &&& Int32.toUInt32 31)).toInt32), .int (nI (c + 1)), .ref cm], M1)) rfl rfl rfl ?_
    refine ps_st (S' := (61, [(0, .ref o), (1, .int x)], [.int (((x.toUInt32 >>> ((16 : Int32).toUInt32 &&& Int32.toUInt32 31)).toInt32).toInt8.toInt32), .int (nI (c + 1)), .ref cm], M1)) rfl rfl rfl ?_
    refine ps_ast rfl h2 (fun M8 i0_61 i1_61 h9 f10 z11 => ?_)
    have h12 := (f10 o (ob_ar h5 h2)).trans h5
    have hF13 := hF6.up (Or.inl (by simp)) f10 (by rw [z11]; exact Nat.le_refl _)
    have tp14 : M8.2.1 = z0 := by rw [z11]; exact tp7
    show pl _ _ _ (62, [(0, .ref o), (1, .int x)], [], M8) _
    refine ps_st (S' := (63, [(0, .ref o), (1, .int x)], [.ref o], M8)) rfl rfl rfl ?_
    refine ps_get (S' := (66, [(0, .ref o), (1, .int x)], [.ref cm], M8)) rfl h12 rfl rfl ?_
    refine ps_st (S' := (67, [(0, .ref o), (1, .int x)], [.ref o, .ref cm], M8)) rfl rfl rfl ?_
    refine ps_get (S' := (70, [(0, .ref o), (1, .int x)], [.int (nI c), .ref cm], M8)) rfl h12 rfl rfl ?_
    refine ps_st (S' := (71, [(0, .ref o), (1, .int x)], [.int 2, .int (nI c), .ref cm], M8)) rfl rfl rfl ?_
    refine ps_st (S' := (72, [(0, .ref o), (1, .int x)], [.int ((nI c) + 2), .ref cm], M8)) rfl rfl rfl ?_
    rw [nI_add1 (p := c) (k := 2) (x := 2) rfl (by omega)]
    show pl _ _ _ (_, [(0, .ref o), (1, .int x)], [.int (nI (c + 2)), .ref cm], M8) _
    refine ps_st (S' := (73, [(0, .ref o), (1, .int x)], [.int x, .int (nI (c + 2)), .ref cm], M8)) rfl rfl rfl ?_
    refine ps_st (S' := (75, [(0, .ref o), (1, .int x)], [.int 8, .int x, .int (nI (c + 2)), .ref cm], M8)) rfl rfl rfl ?_
    refine ps_st (S' := (76, [(0, .ref o), (1, .int x)], [.int ((x.toUInt32 >>> ((8 : Int32).toUInt32 &&& Int32.toUInt32 31)).toInt32), .int (nI (c + 2)), .ref cm], M8)) rfl rfl rfl ?_
    refine ps_st (S' := (77, [(0, .ref o), (1, .int x)], [.int (((x.toUInt32 >>> ((8 : Int32).toUInt32 &&& Int32.toUInt32 31)).toInt32).toInt8.toInt32), .int (nI (c + 2)), .ref cm], M8)) rfl rfl rfl ?_
    refine ps_ast rfl h9 (fun M15 i0_77 i1_77 h16 f17 z18 => ?_)
    have h19 := (f17 o (ob_ar h12 h9)).trans h12
    have hF20 := hF13.up (Or.inl (by simp)) f17 (by rw [z18]; exact Nat.le_refl _)
    have tp21 : M15.2.1 = z0 := by rw [z18]; exact tp14
    show pl _ _ _ (78, [(0, .ref o), (1, .int x)], [], M15) _
    refine ps_st (S' := (79, [(0, .ref o), (1, .int x)], [.ref o], M15)) rfl rfl rfl ?_
    refine ps_get (S' := (82, [(0, .ref o), (1, .int x)], [.ref cm], M15)) rfl h19 rfl rfl ?_
    refine ps_st (S' := (83, [(0, .ref o), (1, .int x)], [.ref o, .ref cm], M15)) rfl rfl rfl ?_
    refine ps_get (S' := (86, [(0, .ref o), (1, .int x)], [.int (nI c), .ref cm], M15)) rfl h19 rfl rfl ?_
    refine ps_st (S' := (87, [(0, .ref o), (1, .int x)], [.int 3, .int (nI c), .ref cm], M15)) rfl rfl rfl ?_
    refine ps_st (S' := (88, [(0, .ref o), (1, .int x)], [.int ((nI c) + 3), .ref cm], M15)) rfl rfl rfl ?_
    rw [nI_add1 (p := c) (k := 3) (x := 3) rfl (by omega)]
    show pl _ _ _ (_, [(0, .ref o), (1, .int x)], [.int (nI (c + 3)), .ref cm], M15) _
    refine ps_st (S' := (89, [(0, .ref o), (1, .int x)], [.int x, .int (nI (c + 3)), .ref cm], M15)) rfl rfl rfl ?_
    refine ps_st (S' := (90, [(0, .ref o), (1, .int x)], [.int (x.toInt8.toInt32), .int (nI (c + 3)), .ref cm], M15)) rfl rfl rfl ?_
    refine ps_ast rfl h16 (fun M22 i0_90 i1_90 h23 f24 z25 => ?_)
    have h26 := (f24 o (ob_ar h19 h16)).trans h19
    have hF27 := hF20.up (Or.inl (by simp)) f24 (by rw [z25]; exact Nat.le_refl _)
    have tp28 : M22.2.1 = z0 := by rw [z25]; exact tp21
    show pl _ _ _ (91, [(0, .ref o), (1, .int x)], [], M22) _
    refine ps_st (S' := (92, [(0, .ref o), (1, .int x)], [.ref o], M22)) rfl rfl rfl ?_
    refine ps_st (S' := (93, [(0, .ref o), (1, .int x)], [.ref o, .ref o], M22)) rfl rfl rfl ?_
    refine ps_get (S' := (96, [(0, .ref o), (1, .int x)], [.int (nI c), .ref o], M22)) rfl h26 rfl rfl ?_
    refine ps_st (S' := (97, [(0, .ref o), (1, .int x)], [.int 4, .int (nI c), .ref o], M22)) rfl rfl rfl ?_
    refine ps_st (S' := (98, [(0, .ref o), (1, .int x)], [.int ((nI c) + 4), .ref o], M22)) rfl rfl rfl ?_
    rw [nI_add1 (p := c) (k := 4) (x := 4) rfl (by omega)]
    show pl _ _ _ (_, [(0, .ref o), (1, .int x)], [.int (nI (c + 4)), .ref o], M22) _
    refine ps_put (l' := [.ref cm, .int (nI (c + 4)), .ref fl, kv, .int wp]) rfl h26 rfl rfl (fun M29 h30 f31 z32 => ?_)
    have h33 := (f31 cm (Ne.symm (ob_ar h26 h23))).trans h23
    have hF34 := hF27.up (Or.inl (by simp)) f31 (by rw [z32]; exact Nat.le_refl _)
    have tp35 : M29.2.1 = z0 := by rw [z32]; exact tp28
    show pl _ _ _ (101, [(0, .ref o), (1, .int x)], [], M29) _
    exact ps_ret rfl rfl (⟨cm, m, _, by omega, by omega, by omega, by omega, by omega, upd_b (upd_b (upd_b (upd_b hfit))), fun i hi => upd4 (by omega) hi, rfl, h33, h30, hF34, hF34.2⟩)
  · have c_11 : ¬ (4 ≤ (nI (m - c))) := of_decide_eq_false c_11
    have n_11 : ¬ (4 ≤ m - c) := fun h9 => c_11 ((le_nI (p := 4) (n := m - c) (by decide) (by omega)).mpr h9)
    refine ps_st (S' := (15, [(0, .ref o), (1, .int x)], [.ref o], M)) rfl rfl rfl ?_
    refine ps_st (S' := (16, [(0, .ref o), (1, .int x)], [.ref o, .ref o], M)) rfl rfl rfl ?_
    refine ps_get (S' := (19, [(0, .ref o), (1, .int x)], [.ref cm, .ref o], M)) rfl h_o rfl rfl ?_
    refine ps_st (S' := (20, [(0, .ref o), (1, .int x)], [.ref o, .ref cm, .ref o], M)) rfl rfl rfl ?_
    refine ps_get (S' := (23, [(0, .ref o), (1, .int x)], [.ref cm, .ref cm, .ref o], M)) rfl h_o rfl rfl ?_
    refine ps_alen (S' := (24, [(0, .ref o), (1, .int x)], [.int (nI m), .ref cm, .ref o], M)) rfl h_cm rfl ?_
    refine ps_st (S' := (25, [(0, .ref o), (1, .int x)], [.int 2, .int (nI m), .ref cm, .ref o], M)) rfl rfl rfl ?_
    refine ps_st (S' := (26, [(0, .ref o), (1, .int x)], [.int ((nI m) * 2), .ref cm, .ref o], M)) rfl rfl rfl ?_
    rw [nI_mul1 (p := m) (k := 2) (x := (nI m)) (y := 2) rfl rfl (by omega)]
    show pl _ _ _ (_, [(0, .ref o), (1, .int x)], [.int (nI (m * 2)), .ref cm, .ref o], M) _
    refine pl_call (a := [.ref cm, .int (nI (m * 2))]) (rest := [.ref o]) rfl rfl rfl (dk_copyOf (m := m) (k := (m * 2)) (cm := cm) (C := C) h_cm (hfit) (by omega) (hcg) (by omega) (by omega) (by omega) (by omega)) (fun v36 M37 q38 => ?_)
    obtain ⟨C239, q26_b, q26_c, rfl, h40, f41, tp42⟩ := q38
    rw [show Value.ref M.2.1 = Value.ref z0 from congrArg Value.ref tp0]
    rw [tp0] at h40 tp42
    have h43 := (f41.1 o (by omega) (by simp)).trans h_o
    have h44 := (f41.1 cm (by omega) (by simp)).trans h_cm
    have hF45 := hF.tr f41 (by intro z hz; simp only [List.mem_cons, List.not_mem_nil, or_false] at hz ⊢; try omega)
    show pl _ _ _ (29, [(0, .ref o), (1, .int x)], [.ref z0, .ref o], M37) _
    refine ps_put (l' := [.ref z0, .int (nI c), .ref fl, kv, .int wp]) rfl h43 rfl rfl (fun M46 h47 f48 z49 => ?_)
    have h50 := (f48 cm (Ne.symm (ob_ar h43 h44))).trans h44
    have h51 := (f48 z0 (show z0 ≠ o by omega)).trans h40
    have hF52 := hF45.up (Or.inl (by simp)) f48 (by rw [z49]; exact Nat.le_refl _)
    have tp53 : M46.2.1 = z0 + 1 := by rw [z49]; exact tp42
    show pl _ _ _ (32, [(0, .ref o), (1, .int x)], [], M46) _
    refine ps_st (S' := (33, [(0, .ref o), (1, .int x)], [.ref o], M46)) rfl rfl rfl ?_
    refine ps_get (S' := (36, [(0, .ref o), (1, .int x)], [.ref z0], M46)) rfl h47 rfl rfl ?_
    refine ps_st (S' := (37, [(0, .ref o), (1, .int x)], [.ref o, .ref z0], M46)) rfl rfl rfl ?_
    refine ps_get (S' := (40, [(0, .ref o), (1, .int x)], [.int (nI c), .ref z0], M46)) rfl h47 rfl rfl ?_
    refine ps_st (S' := (41, [(0, .ref o), (1, .int x)], [.int x, .int (nI c), .ref z0], M46)) rfl rfl rfl ?_
    refine ps_st (S' := (43, [(0, .ref o), (1, .int x)], [.int 24, .int x, .int (nI c), .ref z0], M46)) rfl rfl rfl ?_
    refine ps_st (S' := (44, [(0, .ref o), (1, .int x)], [.int ((x.toUInt32 >>> ((24 : Int32).toUInt32 &&& Int32.toUInt32 31)).toInt32), .int (nI c), .ref z0], M46)) rfl rfl rfl ?_
    refine ps_st (S' := (45, [(0, .ref o), (1, .int x)], [.int (((x.toUInt32 >>> ((24 : Int32).toUInt32 &&& Int32.toUInt32 31)).toInt32).toInt8.toInt32), .int (nI c), .ref z0], M46)) rfl rfl rfl ?_
    refine ps_ast rfl h51 (fun M54 i0_45 i1_45 h55 f56 z57 => ?_)
    have h58 := (f56 o (show o ≠ z0 by omega)).trans h47
    have h59 := (f56 cm (show cm ≠ z0 by omega)).trans h50
    have hF60 := hF52.up (Or.inr (by omega)) f56 (by rw [z57]; exact Nat.le_refl _)
    have tp61 : M54.2.1 = z0 + 1 := by rw [z57]; exact tp53
    show pl _ _ _ (46, [(0, .ref o), (1, .int x)], [], M54) _
    refine ps_st (S' := (47, [(0, .ref o), (1, .int x)], [.ref o], M54)) rfl rfl rfl ?_
    refine ps_get (S' := (50, [(0, .ref o), (1, .int x)], [.ref z0], M54)) rfl h58 rfl rfl ?_
    refine ps_st (S' := (51, [(0, .ref o), (1, .int x)], [.ref o, .ref z0], M54)) rfl rfl rfl ?_
    refine ps_get (S' := (54, [(0, .ref o), (1, .int x)], [.int (nI c), .ref z0], M54)) rfl h58 rfl rfl ?_
    refine ps_st (S' := (55, [(0, .ref o), (1, .int x)], [.int 1, .int (nI c), .ref z0], M54)) rfl rfl rfl ?_
    refine ps_st (S' := (56, [(0, .ref o), (1, .int x)], [.int ((nI c) + 1), .ref z0], M54)) rfl rfl rfl ?_
    rw [nI_add1 (p := c) (k := 1) (x := 1) rfl (by omega)]
    show pl _ _ _ (_, [(0, .ref o), (1, .int x)], [.int (nI (c + 1)), .ref z0], M54) _
    refine ps_st (S' := (57, [(0, .ref o), (1, .int x)], [.int x, .int (nI (c + 1)), .ref z0], M54)) rfl rfl rfl ?_
    refine ps_st (S' := (59, [(0, .ref o), (1, .int x)], [.int 16, .int x, .int (nI (c + 1)), .ref z0], M54)) rfl rfl rfl ?_
    refine ps_st (S' := (60, [(0, .ref o), (1, .int x)], [.int ((x.toUInt32 >>> ((16 : Int32).toUInt32 &&& Int32.toUInt32 31)).toInt32), .int (nI (c + 1)), .ref z0], M54)) rfl rfl rfl ?_
    refine ps_st (S' := (61, [(0, .ref o), (1, .int x)], [.int (((x.toUInt32 >>> ((16 : Int32).toUInt32 &&& Int32.toUInt32 31)).toInt32).toInt8.toInt32), .int (nI (c + 1)), .ref z0], M54)) rfl rfl rfl ?_
    refine ps_ast rfl h55 (fun M62 i0_61 i1_61 h63 f64 z65 => ?_)
    have h66 := (f64 o (show o ≠ z0 by omega)).trans h58
    have h67 := (f64 cm (show cm ≠ z0 by omega)).trans h59
    have hF68 := hF60.up (Or.inr (by omega)) f64 (by rw [z65]; exact Nat.le_refl _)
    have tp69 : M62.2.1 = z0 + 1 := by rw [z65]; exact tp61
    show pl _ _ _ (62, [(0, .ref o), (1, .int x)], [], M62) _
    refine ps_st (S' := (63, [(0, .ref o), (1, .int x)], [.ref o], M62)) rfl rfl rfl ?_
    refine ps_get (S' := (66, [(0, .ref o), (1, .int x)], [.ref z0], M62)) rfl h66 rfl rfl ?_
    refine ps_st (S' := (67, [(0, .ref o), (1, .int x)], [.ref o, .ref z0], M62)) rfl rfl rfl ?_
    refine ps_get (S' := (70, [(0, .ref o), (1, .int x)], [.int (nI c), .ref z0], M62)) rfl h66 rfl rfl ?_
    refine ps_st (S' := (71, [(0, .ref o), (1, .int x)], [.int 2, .int (nI c), .ref z0], M62)) rfl rfl rfl ?_
    refine ps_st (S' := (72, [(0, .ref o), (1, .int x)], [.int ((nI c) + 2), .ref z0], M62)) rfl rfl rfl ?_
    rw [nI_add1 (p := c) (k := 2) (x := 2) rfl (by omega)]
    show pl _ _ _ (_, [(0, .ref o), (1, .int x)], [.int (nI (c + 2)), .ref z0], M62) _
    refine ps_st (S' := (73, [(0, .ref o), (1, .int x)], [.int x, .int (nI (c + 2)), .ref z0], M62)) rfl rfl rfl ?_
    refine ps_st (S' := (75, [(0, .ref o), (1, .int x)], [.int 8, .int x, .int (nI (c + 2)), .ref z0], M62)) rfl rfl rfl ?_
    refine ps_st (S' := (76, [(0, .ref o), (1, .int x)], [.int ((x.toUInt32 >>> ((8 : Int32).toUInt32 &&& Int32.toUInt32 31)).toInt32), .int (nI (c + 2)), .ref z0], M62)) rfl rfl rfl ?_
    refine ps_st (S' := (77, [(0, .ref o), (1, .int x)], [.int (((x.toUInt32 >>> ((8 : Int32).toUInt32 &&& Int32.toUInt32 31)).toInt32).toInt8.toInt32), .int (nI (c + 2)), .ref z0], M62)) rfl rfl rfl ?_
    refine ps_ast rfl h63 (fun M70 i0_77 i1_77 h71 f72 z73 => ?_)
    have h74 := (f72 o (show o ≠ z0 by omega)).trans h66
    have h75 := (f72 cm (show cm ≠ z0 by omega)).trans h67
    have hF76 := hF68.up (Or.inr (by omega)) f72 (by rw [z73]; exact Nat.le_refl _)
    have tp77 : M70.2.1 = z0 + 1 := by rw [z73]; exact tp69
    show pl _ _ _ (78, [(0, .ref o), (1, .int x)], [], M70) _
    refine ps_st (S' := (79, [(0, .ref o), (1, .int x)], [.ref o], M70)) rfl rfl rfl ?_
    refine ps_get (S' := (82, [(0, .ref o), (1, .int x)], [.ref z0], M70)) rfl h74 rfl rfl ?_
    refine ps_st (S' := (83, [(0, .ref o), (1, .int x)], [.ref o, .ref z0], M70)) rfl rfl rfl ?_
    refine ps_get (S' := (86, [(0, .ref o), (1, .int x)], [.int (nI c), .ref z0], M70)) rfl h74 rfl rfl ?_
    refine ps_st (S' := (87, [(0, .ref o), (1, .int x)], [.int 3, .int (nI c), .ref z0], M70)) rfl rfl rfl ?_
    refine ps_st (S' := (88, [(0, .ref o), (1, .int x)], [.int ((nI c) + 3), .ref z0], M70)) rfl rfl rfl ?_
    rw [nI_add1 (p := c) (k := 3) (x := 3) rfl (by omega)]
    show pl _ _ _ (_, [(0, .ref o), (1, .int x)], [.int (nI (c + 3)), .ref z0], M70) _
    refine ps_st (S' := (89, [(0, .ref o), (1, .int x)], [.int x, .int (nI (c + 3)), .ref z0], M70)) rfl rfl rfl ?_
    refine ps_st (S' := (90, [(0, .ref o), (1, .int x)], [.int (x.toInt8.toInt32), .int (nI (c + 3)), .ref z0], M70)) rfl rfl rfl ?_
    refine ps_ast rfl h71 (fun M78 i0_90 i1_90 h79 f80 z81 => ?_)
    have h82 := (f80 o (show o ≠ z0 by omega)).trans h74
    have h83 := (f80 cm (show cm ≠ z0 by omega)).trans h75
    have hF84 := hF76.up (Or.inr (by omega)) f80 (by rw [z81]; exact Nat.le_refl _)
    have tp85 : M78.2.1 = z0 + 1 := by rw [z81]; exact tp77
    show pl _ _ _ (91, [(0, .ref o), (1, .int x)], [], M78) _
    refine ps_st (S' := (92, [(0, .ref o), (1, .int x)], [.ref o], M78)) rfl rfl rfl ?_
    refine ps_st (S' := (93, [(0, .ref o), (1, .int x)], [.ref o, .ref o], M78)) rfl rfl rfl ?_
    refine ps_get (S' := (96, [(0, .ref o), (1, .int x)], [.int (nI c), .ref o], M78)) rfl h82 rfl rfl ?_
    refine ps_st (S' := (97, [(0, .ref o), (1, .int x)], [.int 4, .int (nI c), .ref o], M78)) rfl rfl rfl ?_
    refine ps_st (S' := (98, [(0, .ref o), (1, .int x)], [.int ((nI c) + 4), .ref o], M78)) rfl rfl rfl ?_
    rw [nI_add1 (p := c) (k := 4) (x := 4) rfl (by omega)]
    show pl _ _ _ (_, [(0, .ref o), (1, .int x)], [.int (nI (c + 4)), .ref o], M78) _
    refine ps_put (l' := [.ref z0, .int (nI (c + 4)), .ref fl, kv, .int wp]) rfl h82 rfl rfl (fun M86 h87 f88 z89 => ?_)
    have h90 := (f88 cm (Ne.symm (ob_ar h82 h83))).trans h83
    have h91 := (f88 z0 (show z0 ≠ o by omega)).trans h79
    have hF92 := hF84.up (Or.inl (by simp)) f88 (by rw [z89]; exact Nat.le_refl _)
    have tp93 : M86.2.1 = z0 + 1 := by rw [z89]; exact tp85
    show pl _ _ _ (101, [(0, .ref o), (1, .int x)], [], M86) _
    exact ps_ret rfl rfl (⟨z0, (m * 2), _, by omega, by omega, by omega, by omega, by omega, upd_b (upd_b (upd_b (upd_b q26_b))), fun i hi => (upd4 (by omega) hi).trans (wr4_cg (fun j hj => by rw [q26_c j, if_pos (by omega)])), rfl, h91, h87, hF92, hF92.2⟩)
set_option maxHeartbeats 2000000 in
theorem dk_feed {g : xe_G} {M : mi_H} {m cm o c fl : Nat} {C : Nat → Int32} {kv : Value} {wp : Int32} {x1 x2 x3 x4 x5 : Int32} (h_o : M.1 o = some (ob 11 [.ref cm, .int (nI c), .ref fl, kv, .int wp])) (h_cm : M.1 cm = some (ar .byte m C)) (hfit : ∀ i, fits .byte (.int (C i)) = true) (hgl : g.1 < M.2.1) (hcg : cm ≠ g.1) (hm : m ≤ 1000000) (hm4 : 4 ≤ m) (hc : c ≤ m) (ho : o < M.2.1) (hcl : cm < M.2.1) (hoc : ¬ o = cm) (hc2 : c ≤ 65520) : pt (mT g) 9 [.ref o, .int x1, .int x2, .int x3, .int x4, .int x5] M (fun v M' => (∃ (cm2 m2 : Nat) (C2 : Nat → Int32), (cm2 = cm ∨ M.2.1 ≤ cm2) ∧ (cm2 < M'.2.1) ∧ (c + 20 ≤ m2) ∧ (m2 = m ∨ m2 < 2 * (c + 20)) ∧ (4 ≤ m2) ∧ (∀ i, fits .byte (.int (C2 i)) = true) ∧ (∀ i, i < c + 20 → C2 i = fdC C c x1 x2 x3 x4 x5 i) ∧ v = some (.int (nI (c + 20))) ∧ M'.1 cm2 = some (ar .byte m2 C2) ∧ M'.1 o = some (ob 11 [.ref cm2, .int (nI (c + 20)), .ref fl, kv, .int wp]) ∧ gm [o, cm] M M' ∧ M.2.1 ≤ M'.2.1)) := by
  refine pt_in (b := mb_9 g) rfl (fun kf => ?_)
  show pl (mT g) kf (mb_9 g).2 (0, [(0, .ref o), (1, .int x1), (2, .int x2), (3, .int x3), (4, .int x4), (5, .int x5)], [], M) _
  have hF : gm [o, cm] M M := gm.rf
  obtain ⟨z0, tp0⟩ : ∃ z0, M.2.1 = z0 := ⟨_, rfl⟩
  refine ps_st (S' := (1, [(0, .ref o), (1, .int x1), (2, .int x2), (3, .int x3), (4, .int x4), (5, .int x5)], [.ref o], M)) rfl rfl rfl ?_
  refine ps_get (S' := (4, [(0, .ref o), (1, .int x1), (2, .int x2), (3, .int x3), (4, .int x4), (5, .int x5)], [.int (nI c)], M)) rfl h_o rfl rfl ?_
  refine ps_st (S' := (6, [(0, .ref o), (1, .int x1), (2, .int x2), (3, .int x3), (4, .int x4), (5, .int x5)], [.int 65520, .int (nI c)], M)) rfl rfl rfl ?_
  refine ps_if2 (S1 := (19, [(0, .ref o), (1, .int x1), (2, .int x2), (3, .int x3), (4, .int x4), (5, .int x5)], [], M)) (S2 := (9, [(0, .ref o), (1, .int x1), (2, .int x2), (3, .int x3), (4, .int x4), (5, .int x5)], [], M)) rfl rfl rfl (fun c_6 => ?_) (fun c_6 => ?_)
  · have c_6 : (nI c) ≤ 65520 := of_decide_eq_true c_6
    have n_6 : c ≤ 65520 := (le_nI (p := c) (n := 65520) (by omega) (by decide)).mp c_6
    refine ps_st (S' := (20, [(0, .ref o), (1, .int x1), (2, .int x2), (3, .int x3), (4, .int x4), (5, .int x5)], [.ref o], M)) rfl rfl rfl ?_
    refine ps_st (S' := (21, [(0, .ref o), (1, .int x1), (2, .int x2), (3, .int x3), (4, .int x4), (5, .int x5)], [.int x1, .ref o], M)) rfl rfl rfl ?_
    refine pl_call (a := [.ref o, .int x1]) (rest := []) rfl rfl rfl (dk_takeWord (m := m) (cm := cm) (o := o) (c := c) (fl := fl) (C := C) (kv := kv) (wp := wp) (x := x1) h_o h_cm (hfit) (by omega) (by omega) (by omega) (by omega) (by omega) (by omega) (by omega) (by omega)) (fun v1 M2 q3 => ?_)
    obtain ⟨cm24, m25, C26, q21_a, q21_l, q21_m, q21_n, q21_f, q21_b, q21_c, rfl, h7, h8, f9, tp10⟩ := q3
    obtain ⟨t12, tp13⟩ : ∃ t9, M2.2.1 = t9 := ⟨_, rfl⟩
    rw [tp0, tp13] at tp10
    have hF11 := hF.tr f9 (by intro z hz; simp only [List.mem_cons, List.not_mem_nil, or_false] at hz ⊢; try omega)
    show pl _ _ _ (24, [(0, .ref o), (1, .int x1), (2, .int x2), (3, .int x3), (4, .int x4), (5, .int x5)], [], M2) _
    refine ps_st (S' := (25, [(0, .ref o), (1, .int x1), (2, .int x2), (3, .int x3), (4, .int x4), (5, .int x5)], [.ref o], M2)) rfl rfl rfl ?_
    refine ps_st (S' := (26, [(0, .ref o), (1, .int x1), (2, .int x2), (3, .int x3), (4, .int x4), (5, .int x5)], [.int x2, .ref o], M2)) rfl rfl rfl ?_
    refine pl_call (a := [.ref o, .int x2]) (rest := []) rfl rfl rfl (dk_takeWord (m := m25) (cm := cm24) (o := o) (c := (c + 4)) (fl := fl) (C := C26) (kv := kv) (wp := wp) (x := x2) h8 h7 (q21_b) (by omega) (by omega) (by omega) (by omega) (by omega) (by omega) (by omega) (by omega)) (fun v14 M15 q16 => ?_)
    obtain ⟨cm217, m218, C219, q26_a, q26_l, q26_m, q26_n, q26_f, q26_b, q26_c, rfl, h20, h21, f22, tp23⟩ := q16
    obtain ⟨t25, tp26⟩ : ∃ t9, M15.2.1 = t9 := ⟨_, rfl⟩
    rw [tp13, tp26] at tp23
    have hF24 := hF11.tr f22 (by intro z hz; simp only [List.mem_cons, List.not_mem_nil, or_false] at hz ⊢; try omega)
    show pl _ _ _ (29, [(0, .ref o), (1, .int x1), (2, .int x2), (3, .int x3), (4, .int x4), (5, .int x5)], [], M15) _
    refine ps_st (S' := (30, [(0, .ref o), (1, .int x1), (2, .int x2), (3, .int x3), (4, .int x4), (5, .int x5)], [.ref o], M15)) rfl rfl rfl ?_
    refine ps_st (S' := (31, [(0, .ref o), (1, .int x1), (2, .int x2), (3, .int x3), (4, .int x4), (5, .int x5)], [.int x3, .ref o], M15)) rfl rfl rfl ?_
    refine pl_call (a := [.ref o, .int x3]) (rest := []) rfl rfl rfl (dk_takeWord (m := m218) (cm := cm217) (o := o) (c := (c + 8)) (fl := fl) (C := C219) (kv := kv) (wp := wp) (x := x3) h21 h20 (q26_b) (by omega) (by omega) (by omega) (by omega) (by omega) (by omega) (by omega) (by omega)) (fun v27 M28 q29 => ?_)
    obtain ⟨cm230, m231, C232, q31_a, q31_l, q31_m, q31_n, q31_f, q31_b, q31_c, rfl, h33, h34, f35, tp36⟩ := q29
    obtain ⟨t38, tp39⟩ : ∃ t9, M28.2.1 = t9 := ⟨_, rfl⟩
    rw [tp26, tp39] at tp36
    have hF37 := hF24.tr f35 (by intro z hz; simp only [List.mem_cons, List.not_mem_nil, or_false] at hz ⊢; try omega)
    show pl _ _ _ (34, [(0, .ref o), (1, .int x1), (2, .int x2), (3, .int x3), (4, .int x4), (5, .int x5)], [], M28) _
    refine ps_st (S' := (35, [(0, .ref o), (1, .int x1), (2, .int x2), (3, .int x3), (4, .int x4), (5, .int x5)], [.ref o], M28)) rfl rfl rfl ?_
    refine ps_st (S' := (37, [(0, .ref o), (1, .int x1), (2, .int x2), (3, .int x3), (4, .int x4), (5, .int x5)], [.int x4, .ref o], M28)) rfl rfl rfl ?_
    refine pl_call (a := [.ref o, .int x4]) (rest := []) rfl rfl rfl (dk_takeWord (m := m231) (cm := cm230) (o := o) (c := (c + 12)) (fl := fl) (C := C232) (kv := kv) (wp := wp) (x := x4) h34 h33 (q31_b) (by omega) (by omega) (by omega) (by omega) (by omega) (by omega) (by omega) (by omega)) (fun v40 M41 q42 => ?_)
    obtain ⟨cm243, m244, C245, q37_a, q37_l, q37_m, q37_n, q37_f, q37_b, q37_c, rfl, h46, h47, f48, tp49⟩ := q42
    obtain ⟨t51, tp52⟩ : ∃ t9, M41.2.1 = t9 := ⟨_, rfl⟩
    rw [tp39, tp52] at tp49
    have hF50 := hF37.tr f48 (by intro z hz; simp only [List.mem_cons, List.not_mem_nil, or_false] at hz ⊢; try omega)
    show pl _ _ _ (40, [(0, .ref o), (1, .int x1), (2, .int x2), (3, .int x3), (4, .int x4), (5, .int x5)], [], M41) _
    refine ps_st (S' := (41, [(0, .ref o), (1, .int x1), (2, .int x2), (3, .int x3), (4, .int x4), (5, .int x5)], [.ref o], M41)) rfl rfl rfl ?_
    refine ps_st (S' := (43, [(0, .ref o), (1, .int x1), (2, .int x2), (3, .int x3), (4, .int x4), (5, .int x5)], [.int x5, .ref o], M41)) rfl rfl rfl ?_
    refine pl_call (a := [.ref o, .int x5]) (rest := []) rfl rfl rfl (dk_takeWord (m := m244) (cm := cm243) (o := o) (c := (c + 16)) (fl := fl) (C := C245) (kv := kv) (wp := wp) (x := x5) h47 h46 (q37_b) (by omega) (by omega) (by omega) (by omega) (by omega) (by omega) (by omega) (by omega)) (fun v53 M54 q55 => ?_)
    obtain ⟨cm256, m257, C258, q43_a, q43_l, q43_m, q43_n, q43_f, q43_b, q43_c, rfl, h59, h60, f61, tp62⟩ := q55
    obtain ⟨t64, tp65⟩ : ∃ t9, M54.2.1 = t9 := ⟨_, rfl⟩
    rw [tp52, tp65] at tp62
    have hF63 := hF50.tr f61 (by intro z hz; simp only [List.mem_cons, List.not_mem_nil, or_false] at hz ⊢; try omega)
    show pl _ _ _ (46, [(0, .ref o), (1, .int x1), (2, .int x2), (3, .int x3), (4, .int x4), (5, .int x5)], [], M54) _
    refine ps_st (S' := (47, [(0, .ref o), (1, .int x1), (2, .int x2), (3, .int x3), (4, .int x4), (5, .int x5)], [.ref o], M54)) rfl rfl rfl ?_
    refine ps_get (S' := (50, [(0, .ref o), (1, .int x1), (2, .int x2), (3, .int x3), (4, .int x4), (5, .int x5)], [.int (nI (c + 20))], M54)) rfl h60 rfl rfl ?_
    exact ps_reti rfl (⟨cm256, m257, _, by omega, by omega, by omega, by omega, by omega, q43_b, fun i hi => (q43_c i hi).trans (wr4_cg (fun j hj => (q37_c j hj).trans (wr4_cg (fun j hj => (q31_c j hj).trans (wr4_cg (fun j hj => (q26_c j hj).trans (wr4_cg (fun j hj => q21_c j hj)))))))), rfl, h59, h60, hF63, hF63.2⟩)
  · have c_6 : ¬ ((nI c) ≤ 65520) := of_decide_eq_false c_6
    have n_6 : ¬ (c ≤ 65520) := fun h9 => c_6 ((le_nI (p := c) (n := 65520) (by omega) (by decide)).mpr h9)
    exact absurd hc2 (by omega)
set_option maxHeartbeats 2000000 in
theorem dk_end {g : xe_G} {M : mi_H} {m cm o c fl k : Nat} {C : Nat → Int32} {kv : Value} {wp : Int32} (h_o : M.1 o = some (ob 11 [.ref cm, .int (nI c), .ref fl, kv, .int wp])) (h_cm : M.1 cm = some (ar .byte m C)) (hfit : ∀ i, fits .byte (.int (C i)) = true) (hgl : g.1 < M.2.1) (hcg : cm ≠ g.1) (hm : m ≤ 1000000) (hk : k ≤ c) (hcm : c < m) (ho : o < M.2.1) (hcl : cm < M.2.1) (hoc : ¬ o = cm) : pt (mT g) 7 [.ref o, .int (nI k)] M (fun v M' => (∃ (F2 : Nat → Int32), (∀ i, fits .byte (.int (F2 i)) = true) ∧ (∀ i, F2 i = if i < k then C i else 0) ∧ v = some (.int (nI k)) ∧ M'.1 M.2.1 = some (ar .byte k F2) ∧ M'.1 o = some (ob 11 [.ref cm, .int (nI 0), .ref (M.2.1), kv, .int wp]) ∧ gm [o] M M' ∧ M'.2.1 = M.2.1 + 1)) := by
  refine pt_in (b := mb_7 g) rfl (fun kf => ?_)
  show pl (mT g) kf (mb_7 g).2 (0, [(0, .ref o), (1, .int (nI k))], [], M) _
  have hF : gm [o] M M := gm.rf
  obtain ⟨z0, tp0⟩ : ∃ z0, M.2.1 = z0 := ⟨_, rfl⟩
  refine ps_st (S' := (1, [(0, .ref o), (1, .int (nI k))], [.int (nI k)], M)) rfl rfl rfl ?_
  refine ps_if (S1 := (12, [(0, .ref o), (1, .int (nI k))], [], M)) (S2 := (4, [(0, .ref o), (1, .int (nI k))], [], M)) rfl rfl rfl (fun c_1 => ?_) (fun c_1 => ?_)
  · exact absurd (of_decide_eq_true c_1) (show ¬ ((nI k) < 0) from fun h9 => absurd ((lt_nI (p := k) (n := 0) (by omega) (by decide)).mp h9) (by omega))
  refine ps_st (S' := (5, [(0, .ref o), (1, .int (nI k))], [.int (nI k)], M)) rfl rfl rfl ?_
  refine ps_st (S' := (6, [(0, .ref o), (1, .int (nI k))], [.ref o, .int (nI k)], M)) rfl rfl rfl ?_
  refine ps_get (S' := (9, [(0, .ref o), (1, .int (nI k))], [.int (nI c), .int (nI k)], M)) rfl h_o rfl rfl ?_
  refine ps_if2 (S1 := (22, [(0, .ref o), (1, .int (nI k))], [], M)) (S2 := (12, [(0, .ref o), (1, .int (nI k))], [], M)) rfl rfl rfl (fun c_9 => ?_) (fun c_9 => ?_)
  · have c_9 : (nI k) ≤ (nI c) := of_decide_eq_true c_9
    have n_9 : k ≤ c := (le_nI (p := k) (n := c) (by omega) (by omega)).mp c_9
    refine ps_st (S' := (23, [(0, .ref o), (1, .int (nI k))], [.ref o], M)) rfl rfl rfl ?_
    refine ps_st (S' := (24, [(0, .ref o), (1, .int (nI k))], [.ref o, .ref o], M)) rfl rfl rfl ?_
    refine ps_get (S' := (27, [(0, .ref o), (1, .int (nI k))], [.ref cm, .ref o], M)) rfl h_o rfl rfl ?_
    refine ps_st (S' := (28, [(0, .ref o), (1, .int (nI k))], [.int (nI k), .ref cm, .ref o], M)) rfl rfl rfl ?_
    refine pl_call (a := [.ref cm, .int (nI k)]) (rest := [.ref o]) rfl rfl rfl (dk_copyOf (m := m) (k := k) (cm := cm) (C := C) h_cm (hfit) (by omega) (hcg) (by omega) (by omega) (by omega) (by omega)) (fun v1 M2 q3 => ?_)
    obtain ⟨C24, q28_b, q28_c, rfl, h5, f6, tp7⟩ := q3
    rw [show Value.ref M.2.1 = Value.ref z0 from congrArg Value.ref tp0]
    rw [tp0] at h5 tp7
    have h8 := (f6.1 o (by omega) (by simp)).trans h_o
    have h9 := (f6.1 cm (by omega) (by simp)).trans h_cm
    have hF10 := hF.tr f6 (by intro z hz; simp only [List.mem_cons, List.not_mem_nil, or_false] at hz ⊢; try omega)
    show pl _ _ _ (31, [(0, .ref o), (1, .int (nI k))], [.ref z0, .ref o], M2) _
    refine ps_put (l' := [.ref cm, .int (nI c), .ref z0, kv, .int wp]) rfl h8 rfl rfl (fun M11 h12 f13 z14 => ?_)
    have h15 := (f13 cm (Ne.symm (ob_ar h8 h9))).trans h9
    have h16 := (f13 z0 (show z0 ≠ o by omega)).trans h5
    have hF17 := hF10.up (Or.inl (by simp)) f13 (by rw [z14]; exact Nat.le_refl _)
    have tp18 : M11.2.1 = z0 + 1 := by rw [z14]; exact tp7
    show pl _ _ _ (34, [(0, .ref o), (1, .int (nI k))], [], M11) _
    refine ps_st (S' := (35, [(0, .ref o), (1, .int (nI k))], [.ref o], M11)) rfl rfl rfl ?_
    refine ps_st (S' := (36, [(0, .ref o), (1, .int (nI k))], [.int 0, .ref o], M11)) rfl rfl rfl ?_
    refine ps_put (l' := [.ref cm, .int 0, .ref z0, kv, .int wp]) rfl h12 rfl rfl (fun M19 h20 f21 z22 => ?_)
    have h23 := (f21 cm (Ne.symm (ob_ar h12 h15))).trans h15
    have h24 := (f21 z0 (show z0 ≠ o by omega)).trans h16
    have hF25 := hF17.up (Or.inl (by simp)) f21 (by rw [z22]; exact Nat.le_refl _)
    have tp26 : M19.2.1 = z0 + 1 := by rw [z22]; exact tp18
    show pl _ _ _ (39, [(0, .ref o), (1, .int (nI k))], [], M19) _
    refine ps_st (S' := (40, [(0, .ref o), (1, .int (nI k))], [.int (nI k)], M19)) rfl rfl rfl ?_
    exact ps_reti rfl (⟨_, q28_b, fun i => (q28_c i).trans (end_if (by omega)), rfl, by rw [tp0]; exact h24, h20, hF25, by rw [tp0]; exact tp26⟩)
  · have c_9 : ¬ ((nI k) ≤ (nI c)) := of_decide_eq_false c_9
    have n_9 : ¬ (k ≤ c) := fun h9 => c_9 ((le_nI (p := k) (n := c) (by omega) (by omega)).mpr h9)
    exact absurd hk (by omega)
set_option maxHeartbeats 1000000 in
theorem dk_place {g : xe_G} {M : mi_H} {cm o fl : Nat} {nc : Int32} {kv : Value} {wp : Int32} (h_o : M.1 o = some (ob 11 [.ref cm, .int nc, .ref fl, kv, .int wp]))  : pt (mT g) 16 [.ref o] M (fun v M' => (v = some (.int wp) ∧ M = M')) := by
  refine pt_in (b := mb_16 g) rfl (fun kf => ?_)
  show pl (mT g) kf (mb_16 g).2 (0, [(0, .ref o)], [], M) _
  refine ps_st (S' := (1, [(0, .ref o)], [.ref o], M)) rfl rfl rfl ?_
  refine ps_get (S' := (4, [(0, .ref o)], [.int wp], M)) rfl h_o rfl rfl ?_
  exact ps_reti rfl (⟨rfl, rfl⟩)
