/-! the reference: texts, the pool (laid by wip/p2/c62.py) -/
set_option maxHeartbeats 2000000 in
theorem rm_symbolS {g : xe_G}  {m0 : Nat} {q : Nat → Nat} {z : Nat × Nat} {I : rI} {R : rR} {M : mi_H} {S cN : Nat} {lk : Nat}  (hR : RS g m0 q z I R M) (hZ : SYM S cN I R) (hlk : rlk lk) (hroom : cN + (xe_lt lk).2.2.2.length ≤ 66000) (hS : S < 24000) {d : Nat} (hd : 2 ≤ d) : mt (mT g) d 246 [.ref m0, .ref (g.2.1 lk)] M (fun v M' => ∃ (x : Int32) (I' : rI) (R' : rR), v = some (.int x) ∧ RS g m0 q z I' R' M' ∧ eqI [3, 8] I I' ∧ eqR [1, 2, 4, 5, 6, 7] R R' ∧ SZ S cN (xe_lt lk).2.2.2.length x I' R') := by
  obtain ⟨d, rfl⟩ : ∃ e, d = e + 1 := ⟨d - 1, by omega⟩
  refine mt_in (b := mb_246 g) rfl rfl ?_
  show ml (mT g) d (mb_246 g).2 (0, [(0, .ref m0), (1, .ref (g.2.1 lk))], [], M) _
  refine ml_st (S' := (1, [(0, .ref m0), (1, .ref (g.2.1 lk))], [.int 0], M)) rfl rfl rfl ?_
  refine ml_st (S' := (2, [(0, .ref m0), (1, .ref (g.2.1 lk)), (2, .int 0)], [], M)) rfl rfl rfl ?_
  have L_2 : ∀ (n_2 : Nat) (i2_2 : Int32) (M_2 : mi_H) (I_2 : rI) (R_2 : rR), (2147483648 - i2_2.toInt).toNat ≤ n_2 → RS g m0 q z I_2 R_2 M_2 → eqI [] I I_2 → eqR [2] R R_2 → (0 ≤ i2_2.toInt ∧ i2_2.toInt ≤ (xe_lt lk).2.2.2.length ∧ CUe i2_2.toInt.toNat R_2) → ml (mT g) d (mb_246 g).2 (2, [(0, .ref m0), (1, .ref (g.2.1 lk)), (2, .int i2_2)], [], M_2) (fun v M' => ∃ (x : Int32) (I' : rI) (R' : rR), v = some (.int x) ∧ RS g m0 q z I' R' M' ∧ eqI [3, 8] I I' ∧ eqR [1, 2, 4, 5, 6, 7] R R' ∧ SZ S cN (xe_lt lk).2.2.2.length x I' R') := by
    intro n_2
    induction n_2 with
    | zero => intro i2_2 M_2 I_2 R_2 hn; exact (loop_zero hn).elim
    | succ n_2 ih_2 =>
      intro i2_2 M_2 I_2 R_2 hn_2 hR_2 hI_2 hV_2 hi_2
      refine ml_blk 2 (S' := (4, [(0, .ref m0), (1, .ref (g.2.1 lk)), (2, .int i2_2)], [.ref (g.2.1 lk), .int i2_2], M_2)) rfl ?_
      obtain ⟨fl11, hl12⟩ := hR_2.2.2.2.2.2 lk hlk
      refine ml_slen (lk := lk) (S' := (7, [(0, .ref m0), (1, .ref (g.2.1 lk)), (2, .int i2_2)], [.int (nI (xe_lt lk).2.2.2.length), .int i2_2], M_2)) rfl hl12 hlk.2 rfl rfl ?_
      refine ml_if2 (S1 := (27, [(0, .ref m0), (1, .ref (g.2.1 lk)), (2, .int i2_2)], [], M_2)) (S2 := (10, [(0, .ref m0), (1, .ref (g.2.1 lk)), (2, .int i2_2)], [], M_2)) rfl rfl rfl (fun c_7 => ?_) (fun c_7 => ?_)
      · have c_7 : (nI (xe_lt lk).2.2.2.length) ≤ i2_2 := of_decide_eq_true c_7
        have hle : ((xe_lt lk).2.2.2.length : Int) ≤ i2_2.toInt := by have := i_le c_7; rw [nI_val (by omega)] at this; exact this
        have hcu : CUe (xe_lt lk).2.2.2.length R_2 := fun j hj => hi_2.2.2 j (by omega)
        have hUx := hcu.known (I := I_2)
        refine ml_blk 2 (S' := (29, [(0, .ref m0), (1, .ref (g.2.1 lk)), (2, .int i2_2)], [.ref (g.2.1 lk), .ref m0], M_2)) rfl ?_
        obtain ⟨fl13, hl14⟩ := hR_2.2.2.2.2.2 lk hlk
        refine ml_slen (lk := lk) (S' := (32, [(0, .ref m0), (1, .ref (g.2.1 lk)), (2, .int i2_2)], [.int (nI (xe_lt lk).2.2.2.length), .ref m0], M_2)) rfl hl14 hlk.2 rfl rfl ?_
        have hZ15 : SYM S cN I_2 R_2 := (hZ.mono (cIx hI_2 (by decide)) (cRx hV_2 (by decide)))
        refine ml_call (a := [.ref m0, .int (nI (xe_lt lk).2.2.2.length)]) (rest := []) rfl (hR_2.okc rfl rfl rfl) rfl rfl (rz_symbol hR_2 hZ15 hUx (nI_val (by omega)) (hroom) (hS) (by omega)) (fun v16 M17 h18 => ?_)
        obtain ⟨u24, I19, R20, rfl, hR21, hI22, hV23, w25⟩ := h18
        show ml _ _ _ (35, [(0, .ref m0), (1, .ref (g.2.1 lk)), (2, .int i2_2)], [.int u24], M17) _
        exact ml_ret rfl (rfl) (⟨_, _, _, rfl, hR21, ((eqI.rf.tr hI_2 (by decide)).tr hI22 (by decide)), ((eqR.rf.tr hV_2 (by decide)).tr hV23 (by decide)), w25⟩)
      · have c_7 : ¬ ((nI (xe_lt lk).2.2.2.length) ≤ i2_2) := of_decide_eq_false c_7
        refine ml_st (S' := (11, [(0, .ref m0), (1, .ref (g.2.1 lk)), (2, .int i2_2)], [.ref m0], M_2)) rfl rfl rfl ?_
        refine rg_ref (S' := (14, [(0, .ref m0), (1, .ref (g.2.1 lk)), (2, .int i2_2)], [.ref (q 2)], M_2)) rfl hR_2 rfl rfl ?_
        refine ml_blk 3 (S' := (17, [(0, .ref m0), (1, .ref (g.2.1 lk)), (2, .int i2_2)], [.int i2_2, .ref (g.2.1 lk), .int i2_2, .ref (q 2)], M_2)) rfl ?_
        obtain ⟨fl26, hl27⟩ := hR_2.2.2.2.2.2 lk hlk
        refine ml_scat (lk := lk) (S' := (20, [(0, .ref m0), (1, .ref (g.2.1 lk)), (2, .int i2_2)], [.int (xe_ch lk (Int32.toNatClampNeg i2_2)), .int i2_2, .ref (q 2)], M_2)) rfl hl27 hlk.2 rfl (nlt0 hi_2.1) (by have q := i_nle c_7; rw [nI_val (by omega)] at q; show i2_2.toInt.toNat < _; have := hi_2.1; omega) rfl ?_
        have hlt : i2_2.toInt < (xe_lt lk).2.2.2.length := by have := i_nle c_7; rw [nI_val (by omega)] at this; exact this
        have hn1 : (i2_2 + 1).toInt = i2_2.toInt + 1 := inc_lt (Int32.not_le.mp c_7)
        refine ra_st (k := 2) rfl hR_2 rfl (vin_lt hi_2.1 (by omega)) (fun M28 R29 hR30 e31 g32 f33 => ?_)
        show ml _ _ _ (21, [(0, .ref m0), (1, .ref (g.2.1 lk)), (2, .int i2_2)], [], M28) _
        refine ml_st (S' := (24, [(2, .int (i2_2 + 1)), (0, .ref m0), (1, .ref (g.2.1 lk))], [], M28)) rfl rfl rfl ?_
        refine ml_st (S' := (2, [(0, .ref m0), (1, .ref (g.2.1 lk)), (2, .int (i2_2 + 1))], [], M28)) rfl rfl rfl ?_
        exact ih_2 (i2_2 + 1) _ _ _ (loop_inc (Int32.not_le.mp c_7) hn_2) hR30 (eqI.rf.tr hI_2 (by decide)) ((eqR.rf.tr hV_2 (by decide)).put f33 (by decide)) (⟨by have := hi_2.1; omega, by omega, hi_2.2.2.put hi_2.1 e31 (ch16_vn _) g32 hn1⟩)
  exact L_2 _ 0 _ _ _ (Nat.le_refl _) hR eqI.rf eqR.rf (⟨by decide, by show (0 : Int) ≤ _; omega, fun j hj => absurd hj (Nat.not_lt_zero j)⟩)
set_option maxHeartbeats 2000000 in
theorem rm_clear {g : xe_G}  {m0 : Nat} {q : Nat → Nat} {z : Nat × Nat} {I : rI} {R : rR} {M : mi_H}  (hR : RS g m0 q z I R M) {d : Nat} (hd : 3 ≤ d) : mt (mT g) d 195 [.ref m0] M (fun v M' => v = none ∧ ∃ (I' : rI) (R' : rR), RS g m0 q z I' R' M' ∧ eqI [3, 8, 9, 10, 11, 20, 25, 26] I I' ∧ eqR [1, 2, 4, 5, 6, 7] R R' ∧ ∃ S cN : Nat, SYM S cN I' R' ∧ S ≤ 3 ∧ cN ≤ 30 ∧ (∃ a, I' 9 = some a) ∧ (∃ a, I' 10 = some a) ∧ (∃ a, I' 11 = some a) ∧ I' 20 = some 0 ∧ I' 25 = some 0 ∧ I' 26 = some 0) := by
  obtain ⟨d, rfl⟩ : ∃ e, d = e + 1 := ⟨d - 1, by omega⟩
  refine mt_in (b := mb_195 g) rfl rfl ?_
  show ml (mT g) d (mb_195 g).2 (0, [(0, .ref m0)], [], M) _
  refine ml_blk 2 (S' := (2, [(0, .ref m0)], [.int 0, .ref m0], M)) rfl ?_
  refine rp_int rfl hR rfl (fun M11 I12 hR13 e14 f15 => ?_)
  show ml _ _ _ (5, [(0, .ref m0)], [], M11) _
  refine ml_blk 2 (S' := (7, [(0, .ref m0)], [.int 0, .ref m0], M11)) rfl ?_
  refine rp_int rfl hR13 rfl (fun M16 I17 hR18 e19 f20 => ?_)
  show ml _ _ _ (10, [(0, .ref m0)], [], M16) _
  refine ml_st (S' := (11, [(0, .ref m0)], [.int 0], M16)) rfl rfl rfl ?_
  refine ml_st (S' := (12, [(0, .ref m0), (1, .int 0)], [], M16)) rfl rfl rfl ?_
  have L_12 : ∀ (n_12 : Nat) (i12_1 : Int32) (M_12 : mi_H) (I_12 : rI) (R_12 : rR), (2147483648 - i12_1.toInt).toNat ≤ n_12 → RS g m0 q z I_12 R_12 M_12 → eqI [] I17 I_12 → eqR [7] R R_12 → (0 ≤ i12_1.toInt ∧ i12_1.toInt ≤ 4096 ∧ ∀ j, j < i12_1.toInt.toNat → R_12 7 j = some (-1)) → ml (mT g) d (mb_195 g).2 (12, [(0, .ref m0), (1, .int i12_1)], [], M_12) (fun v M' => v = none ∧ ∃ (I' : rI) (R' : rR), RS g m0 q z I' R' M' ∧ eqI [3, 8, 9, 10, 11, 20, 25, 26] I I' ∧ eqR [1, 2, 4, 5, 6, 7] R R' ∧ ∃ S cN : Nat, SYM S cN I' R' ∧ S ≤ 3 ∧ cN ≤ 30 ∧ (∃ a, I' 9 = some a) ∧ (∃ a, I' 10 = some a) ∧ (∃ a, I' 11 = some a) ∧ I' 20 = some 0 ∧ I' 25 = some 0 ∧ I' 26 = some 0) := by
    intro n_12
    induction n_12 with
    | zero => intro i12_1 M_12 I_12 R_12 hn; exact (loop_zero hn).elim
    | succ n_12 ih_12 =>
      intro i12_1 M_12 I_12 R_12 hn_12 hR_12 hI_12 hV_12 hi_12
      obtain ⟨hk0, hk1, hkh⟩ := hi_12
      refine ml_blk 2 (S' := (16, [(0, .ref m0), (1, .int i12_1)], [.int 4096, .int i12_1], M_12)) rfl ?_
      refine ml_if2 (S1 := (32, [(0, .ref m0), (1, .int i12_1)], [], M_12)) (S2 := (19, [(0, .ref m0), (1, .int i12_1)], [], M_12)) rfl rfl rfl (fun c_16 => ?_) (fun c_16 => ?_)
      · have c_16 : 4096 ≤ i12_1 := of_decide_eq_true c_16
        have hlen25 : (xe_lt 25).2.2.2.length = 6 := rfl
        have hlen26 : (xe_lt 26).2.2.2.length = 8 := rfl
        have hlen27 : (xe_lt 27).2.2.2.length = 16 := rfl
        have h4096 : (4096 : Int32).toInt = 4096 := rfl
        have hge := i_le c_16
        have hZ0 : SYM 0 0 I_12 R_12 := ⟨fun _ => 0, fun _ => 0, fun _ => 0, fun _ => -1, fun _ => 0, ⟨(hI_12 8 (by decide)).trans (e19), (hI_12 3 (by decide)).trans ((f20 3 (by decide)).trans (e14)), by omega, by omega, fun s hs => absurd hs (Nat.not_lt_zero s), fun i hi => absurd hi (Nat.not_lt_zero i)⟩, fun h hh => ⟨hkh h (by omega), by show (-1 : Int) ≤ (-1 : Int32).toInt; decide, by show (-1 : Int32).toInt < ((0 : Nat) : Int); decide⟩, fun s hs => absurd hs (Nat.not_lt_zero s)⟩
        refine ml_blk 3 (S' := (36, [(0, .ref m0), (1, .int i12_1)], [.ref (g.2.1 25), .ref m0, .ref m0], M_12)) rfl ?_
        refine ml_call (a := [.ref m0, .ref (g.2.1 25)]) (rest := [.ref m0]) rfl (hR_12.okc rfl rfl rfl) rfl rfl (rm_symbolS hR_12 hZ0 (by decide) (by have h9 : (xe_lt 25).2.2.2.length = 6 := rfl; omega) (by omega) (by omega)) (fun v21 M22 h23 => ?_)
        obtain ⟨u29, I24, R25, rfl, hR26, hI27, hV28, w30⟩ := h23
        show ml _ _ _ (39, [(0, .ref m0), (1, .int i12_1)], [.int u29, .ref m0], M22) _
        obtain ⟨S1, c1, hz1, hx0_1, hx1_1, hs0_1, hs1_1, hc0_1, hc1_1⟩ := w30
        refine rp_int rfl hR26 rfl (fun M31 I32 hR33 e34 f35 => ?_)
        show ml _ _ _ (42, [(0, .ref m0), (1, .int i12_1)], [], M31) _
        refine ml_blk 3 (S' := (46, [(0, .ref m0), (1, .int i12_1)], [.ref (g.2.1 26), .ref m0, .ref m0], M31)) rfl ?_
        have hZ36 : SYM S1 c1 I32 R25 := (hz1.mono (pIx f35 (by decide)) (fun _ _ => rfl))
        refine ml_call (a := [.ref m0, .ref (g.2.1 26)]) (rest := [.ref m0]) rfl (hR33.okc rfl rfl rfl) rfl rfl (rm_symbolS hR33 hZ36 (by decide) (by have h9 : (xe_lt 26).2.2.2.length = 8 := rfl; omega) (by omega) (by omega)) (fun v37 M38 h39 => ?_)
        obtain ⟨u45, I40, R41, rfl, hR42, hI43, hV44, w46⟩ := h39
        show ml _ _ _ (49, [(0, .ref m0), (1, .int i12_1)], [.int u45, .ref m0], M38) _
        obtain ⟨S2, c2, hz2, hx0_2, hx1_2, hs0_2, hs1_2, hc0_2, hc1_2⟩ := w46
        refine rp_int rfl hR42 rfl (fun M47 I48 hR49 e50 f51 => ?_)
        show ml _ _ _ (52, [(0, .ref m0), (1, .int i12_1)], [], M47) _
        refine ml_blk 3 (S' := (56, [(0, .ref m0), (1, .int i12_1)], [.ref (g.2.1 27), .ref m0, .ref m0], M47)) rfl ?_
        have hZ52 : SYM S2 c2 I48 R41 := (hz2.mono (pIx f51 (by decide)) (fun _ _ => rfl))
        refine ml_call (a := [.ref m0, .ref (g.2.1 27)]) (rest := [.ref m0]) rfl (hR49.okc rfl rfl rfl) rfl rfl (rm_symbolS hR49 hZ52 (by decide) (by have h9 : (xe_lt 27).2.2.2.length = 16 := rfl; omega) (by omega) (by omega)) (fun v53 M54 h55 => ?_)
        obtain ⟨u61, I56, R57, rfl, hR58, hI59, hV60, w62⟩ := h55
        show ml _ _ _ (59, [(0, .ref m0), (1, .int i12_1)], [.int u61, .ref m0], M54) _
        obtain ⟨S3, c3, hz3, hx0_3, hx1_3, hs0_3, hs1_3, hc0_3, hc1_3⟩ := w62
        refine rp_int rfl hR58 rfl (fun M63 I64 hR65 e66 f67 => ?_)
        show ml _ _ _ (62, [(0, .ref m0), (1, .int i12_1)], [], M63) _
        refine ml_blk 2 (S' := (64, [(0, .ref m0), (1, .int i12_1)], [.int 0, .ref m0], M63)) rfl ?_
        refine rp_int rfl hR65 rfl (fun M68 I69 hR70 e71 f72 => ?_)
        show ml _ _ _ (67, [(0, .ref m0), (1, .int i12_1)], [], M68) _
        refine ml_blk 2 (S' := (69, [(0, .ref m0), (1, .int i12_1)], [.int 0, .ref m0], M68)) rfl ?_
        refine rp_int rfl hR70 rfl (fun M73 I74 hR75 e76 f77 => ?_)
        show ml _ _ _ (72, [(0, .ref m0), (1, .int i12_1)], [], M73) _
        refine ml_blk 2 (S' := (74, [(0, .ref m0), (1, .int i12_1)], [.int 0, .ref m0], M73)) rfl ?_
        refine rp_int rfl hR75 rfl (fun M78 I79 hR80 e81 f82 => ?_)
        show ml _ _ _ (77, [(0, .ref m0), (1, .int i12_1)], [], M78) _
        have hZ83 : SYM S3 c3 I79 R57 := ((((hz3.mono (pIx f67 (by decide)) (fun _ _ => rfl)).mono (pIx f72 (by decide)) (fun _ _ => rfl)).mono (pIx f77 (by decide)) (fun _ _ => rfl)).mono (pIx f82 (by decide)) (fun _ _ => rfl))
        exact ml_ret rfl (rfl) (⟨rfl, _, _, hR80, ((((((((((((eqI.rf.put f15 (by decide)).put f20 (by decide)).tr hI_12 (by decide)).tr hI27 (by decide)).put f35 (by decide)).tr hI43 (by decide)).put f51 (by decide)).tr hI59 (by decide)).put f67 (by decide)).put f72 (by decide)).put f77 (by decide)).put f82 (by decide)), ((((eqR.rf.tr hV_12 (by decide)).tr hV28 (by decide)).tr hV44 (by decide)).tr hV60 (by decide)), ⟨_, _, hZ83, by omega, by have h1 : (xe_lt 25).2.2.2.length = 6 := rfl; have h2 : (xe_lt 26).2.2.2.length = 8 := rfl; have h3 : (xe_lt 27).2.2.2.length = 16 := rfl; omega, ⟨_, (f82 9 (by decide)).trans ((f77 9 (by decide)).trans ((f72 9 (by decide)).trans ((f67 9 (by decide)).trans ((hI59 9 (by decide)).trans ((f51 9 (by decide)).trans ((hI43 9 (by decide)).trans (e34)))))))⟩, ⟨_, (f82 10 (by decide)).trans ((f77 10 (by decide)).trans ((f72 10 (by decide)).trans ((f67 10 (by decide)).trans ((hI59 10 (by decide)).trans (e50)))))⟩, ⟨_, (f82 11 (by decide)).trans ((f77 11 (by decide)).trans ((f72 11 (by decide)).trans (e66)))⟩, (f82 20 (by decide)).trans ((f77 20 (by decide)).trans (e71)), (f82 25 (by decide)).trans (e76), e81⟩⟩)
      · have c_16 : ¬ (4096 ≤ i12_1) := of_decide_eq_false c_16
        refine ml_st (S' := (20, [(0, .ref m0), (1, .int i12_1)], [.ref m0], M_12)) rfl rfl rfl ?_
        refine rg_ref (S' := (23, [(0, .ref m0), (1, .int i12_1)], [.ref (q 7)], M_12)) rfl hR_12 rfl rfl ?_
        refine ml_blk 2 (S' := (25, [(0, .ref m0), (1, .int i12_1)], [.int (-1), .int i12_1, .ref (q 7)], M_12)) rfl ?_
        have hlt : i12_1.toInt < 4096 := i_nle c_16
        have hn1 : (i12_1 + 1).toInt = i12_1.toInt + 1 := inc_lt (Int32.not_le.mp c_16)
        refine ra_st (k := 7) rfl hR_12 rfl (vin_lt hk0 (by omega)) (fun M84 R85 hR86 e87 g88 f89 => ?_)
        show ml _ _ _ (26, [(0, .ref m0), (1, .int i12_1)], [], M84) _
        refine ml_st (S' := (29, [(1, .int (i12_1 + 1)), (0, .ref m0)], [], M84)) rfl rfl rfl ?_
        refine ml_st (S' := (12, [(0, .ref m0), (1, .int (i12_1 + 1))], [], M84)) rfl rfl rfl ?_
        exact ih_12 (i12_1 + 1) _ _ _ (loop_inc (Int32.not_le.mp c_16) hn_12) hR86 (eqI.rf.tr hI_12 (by decide)) ((eqR.rf.tr hV_12 (by decide)).put f89 (by decide)) (⟨by omega, by omega, fun j hj => by by_cases e9 : j = i12_1.toInt.toNat; (subst e9; exact e87); (rw [g88 _ e9]; exact hkh j (by omega))⟩)
  exact L_12 _ 0 _ _ _ (Nat.le_refl _) hR18 eqI.rf eqR.rf (⟨by decide, by decide, fun j hj => absurd hj (Nat.not_lt_zero j)⟩)
set_option maxHeartbeats 2000000 in
theorem rm_utf8 {g : xe_G}  {m0 : Nat} {q : Nat → Nat} {z : Nat × Nat} {I : rI} {R : rR} {M : mi_H} {x1 x2 x3 : Int32} {n : Nat} {f : Nat → Int32} {S cN : Nat}  (hR : RS g m0 q z I R M) (hF : FK n f I R) (hZ : SYM S cN I R) (h10 : 0 ≤ x1.toInt) (h11 : x1.toInt < 65540) (h20 : 0 ≤ x2.toInt) (h30 : 0 ≤ x3.toInt) (hfn : x2.toInt + x3.toInt ≤ n) (hroom : (cN : Int) + x3.toInt ≤ 66000) (hS : S < 24000) {d : Nat} (hd : 2 ≤ d) : mt (mT g) d 252 [.ref m0, .int x1, .int x2, .int x3] M (fun v M' => ∃ (x : Int32) (I' : rI) (R' : rR), v = some (.int x) ∧ RS g m0 q z I' R' M' ∧ eqI [3, 8, 47, 48] I I' ∧ eqR [1, 2, 4, 5, 6, 7, 22] R R' ∧ (x = 0 ∨ x = 1) ∧ (x = 0 ∨ ∃ S' cN' : Nat, SYM S' cN' I' R' ∧ S ≤ S' ∧ S' ≤ S + 1 ∧ (cN' : Int) ≤ cN + x3.toInt ∧ (∃ sy, R' 22 x1.toNatClampNeg = some sy ∧ 0 ≤ sy.toInt ∧ sy.toInt < S') ∧ ∀ b, b ≠ x1.toNatClampNeg → R' 22 b = R 22 b)) := by
  obtain ⟨d, rfl⟩ : ∃ e, d = e + 1 := ⟨d - 1, by omega⟩
  refine mt_in (b := mb_252 g) rfl rfl ?_
  show ml (mT g) d (mb_252 g).2 (0, [(0, .ref m0), (1, .int x1), (2, .int x2), (3, .int x3)], [], M) _
  have hn := hF.1
  have ee : (x2 + x3).toInt = x2.toInt + x3.toInt := i_add (by omega) (by omega)
  refine ml_st (S' := (1, [(0, .ref m0), (1, .int x1), (2, .int x2), (3, .int x3)], [.int 0], M)) rfl rfl rfl ?_
  refine ml_st (S' := (3, [(4, .int 0), (0, .ref m0), (1, .int x1), (2, .int x2), (3, .int x3)], [], M)) rfl rfl rfl ?_
  refine ml_st (S' := (4, [(4, .int 0), (0, .ref m0), (1, .int x1), (2, .int x2), (3, .int x3)], [.int x2], M)) rfl rfl rfl ?_
  refine ml_st (S' := (6, [(5, .int x2), (4, .int 0), (0, .ref m0), (1, .int x1), (2, .int x2), (3, .int x3)], [], M)) rfl rfl rfl ?_
  refine ml_blk 3 (S' := (9, [(5, .int x2), (4, .int 0), (0, .ref m0), (1, .int x1), (2, .int x2), (3, .int x3)], [.int (x2 + x3)], M)) rfl ?_
  refine ml_st (S' := (11, [(0, .ref m0), (1, .int x1), (4, .int 0), (5, .int x2), (6, .int (x2 + x3))], [], M)) rfl rfl rfl ?_
  have L_11 : ∀ (n_11 : Nat) (i11_4 : Int32) (i11_5 : Int32) (M_11 : mi_H) (I_11 : rI) (R_11 : rR), (2147483648 - i11_5.toInt).toNat ≤ n_11 → RS g m0 q z I_11 R_11 M_11 → eqI [] I I_11 → eqR [2] R R_11 → (x2.toInt ≤ i11_5.toInt ∧ i11_5.toInt ≤ x2.toInt + x3.toInt ∧ 0 ≤ i11_4.toInt ∧ i11_4.toInt ≤ i11_5.toInt - x2.toInt ∧ CUe i11_4.toInt.toNat R_11) → ml (mT g) d (mb_252 g).2 (11, [(0, .ref m0), (1, .int x1), (4, .int i11_4), (5, .int i11_5), (6, .int (x2 + x3))], [], M_11) (fun v M' => ∃ (x : Int32) (I' : rI) (R' : rR), v = some (.int x) ∧ RS g m0 q z I' R' M' ∧ eqI [3, 8, 47, 48] I I' ∧ eqR [1, 2, 4, 5, 6, 7, 22] R R' ∧ (x = 0 ∨ x = 1) ∧ (x = 0 ∨ ∃ S' cN' : Nat, SYM S' cN' I' R' ∧ S ≤ S' ∧ S' ≤ S + 1 ∧ (cN' : Int) ≤ cN + x3.toInt ∧ (∃ sy, R' 22 x1.toNatClampNeg = some sy ∧ 0 ≤ sy.toInt ∧ sy.toInt < S') ∧ ∀ b, b ≠ x1.toNatClampNeg → R' 22 b = R 22 b)) := by
    intro n_11
    induction n_11 with
    | zero => intro i11_4 i11_5 M_11 I_11 R_11 hn; exact (loop_zero hn).elim
    | succ n_11 ih_11 =>
      intro i11_4 i11_5 M_11 I_11 R_11 hn_11 hR_11 hI_11 hV_11 hi_11
      obtain ⟨hp0, hp1, hm0, hm1, hcu⟩ := hi_11
      refine ml_blk 2 (S' := (15, [(0, .ref m0), (1, .int x1), (4, .int i11_4), (5, .int i11_5), (6, .int (x2 + x3))], [.int (x2 + x3), .int i11_5], M_11)) rfl ?_
      refine ml_if2 (S1 := (242, [(0, .ref m0), (1, .int x1), (4, .int i11_4), (5, .int i11_5), (6, .int (x2 + x3))], [], M_11)) (S2 := (18, [(0, .ref m0), (1, .int x1), (4, .int i11_4), (5, .int i11_5), (6, .int (x2 + x3))], [], M_11)) rfl rfl rfl (fun c_15 => ?_) (fun c_15 => ?_)
      · have c_15 : (x2 + x3) ≤ i11_5 := of_decide_eq_true c_15
        have hU9 := hcu.known (I := I_11)
        refine ml_st (S' := (243, [(0, .ref m0), (1, .int x1), (4, .int i11_4), (5, .int i11_5), (6, .int (x2 + x3))], [.ref m0], M_11)) rfl rfl rfl ?_
        refine rg_ref (S' := (246, [(0, .ref m0), (1, .int x1), (4, .int i11_4), (5, .int i11_5), (6, .int (x2 + x3))], [.ref (q 22)], M_11)) rfl hR_11 rfl rfl ?_
        refine ml_blk 3 (S' := (250, [(0, .ref m0), (1, .int x1), (4, .int i11_4), (5, .int i11_5), (6, .int (x2 + x3))], [.int i11_4, .ref m0, .int x1, .ref (q 22)], M_11)) rfl ?_
        have hZ11 : SYM S cN I_11 R_11 := (hZ.mono (cIx hI_11 (by decide)) (cRx hV_11 (by decide)))
        refine ml_call (a := [.ref m0, .int i11_4]) (rest := [.int x1, .ref (q 22)]) rfl (hR_11.okc rfl rfl rfl) rfl rfl (rz_symbol hR_11 hZ11 hU9 (by show i11_4.toInt = ((i11_4.toInt.toNat : Nat) : Int); omega) (by omega) (hS) (by omega)) (fun v12 M13 h14 => ?_)
        obtain ⟨u20, I15, R16, rfl, hR17, hI18, hV19, w21⟩ := h14
        show ml _ _ _ (253, [(0, .ref m0), (1, .int x1), (4, .int i11_4), (5, .int i11_5), (6, .int (x2 + x3))], [.int u20, .int x1, .ref (q 22)], M13) _
        obtain ⟨S9, c9, hz9, hx0, hx1, hs0, hs1, hc0, hc1⟩ := w21
        refine ra_st (k := 22) rfl hR17 rfl (vin_lt h10 h11) (fun M22 R23 hR24 e25 g26 f27 => ?_)
        show ml _ _ _ (254, [(0, .ref m0), (1, .int x1), (4, .int i11_4), (5, .int i11_5), (6, .int (x2 + x3))], [], M22) _
        refine ml_st (S' := (255, [(0, .ref m0), (1, .int x1), (4, .int i11_4), (5, .int i11_5), (6, .int (x2 + x3))], [.int 1], M22)) rfl rfl rfl ?_
        have hZ28 : SYM S9 c9 I15 R23 := (hz9.mono (fun _ _ => rfl) (pRx f27 (by decide)))
        exact ml_ret rfl (r_z (Or.inr rfl)) (⟨_, _, _, rfl, hR24, ((eqI.rf.tr hI_11 (by decide)).tr hI18 (by decide)), (((eqR.rf.tr hV_11 (by decide)).tr hV19 (by decide)).put f27 (by decide)), Or.inr rfl, Or.inr ⟨S9, c9, hZ28, hs0, hs1, by omega, ⟨_, e25, hx0, hx1⟩, fun b hb => (g26 b hb).trans (congrFun ((hV19 22 (by decide)).trans (hV_11 22 (by decide))) b)⟩⟩)
      · have c_15 : ¬ ((x2 + x3) ≤ i11_5) := of_decide_eq_false c_15
        have hlt := i_nle c_15
        refine ml_blk 2 (S' := (21, [(0, .ref m0), (1, .int x1), (4, .int i11_4), (5, .int i11_5), (6, .int (x2 + x3))], [.int i11_5, .ref m0], M_11)) rfl ?_
        have hF29 : FK n f I_11 R_11 := (hF.mono (cIx hI_11 (by decide)) (cRx hV_11 (by decide)))
        refine ml_call (a := [.ref m0, .int i11_5]) (rest := []) rfl (hR_11.okc rfl rfl rfl) rfl rfl (rm_u1 hR_11 hF29 (by omega) (by omega) (by omega)) (fun v30 M31 h32 => ?_)
        obtain ⟨rfl, h32⟩ := h32
        rw [h32]
        show ml _ _ _ (24, [(0, .ref m0), (1, .int x1), (4, .int i11_4), (5, .int i11_5), (6, .int (x2 + x3))], [.int (f1 f i11_5)], M_11) _
        refine ml_st (S' := (26, [(7, .int (f1 f i11_5)), (0, .ref m0), (1, .int x1), (4, .int i11_4), (5, .int i11_5), (6, .int (x2 + x3))], [], M_11)) rfl rfl rfl ?_
        refine ml_st (S' := (28, [(7, .int (f1 f i11_5)), (0, .ref m0), (1, .int x1), (4, .int i11_4), (5, .int i11_5), (6, .int (x2 + x3))], [.int (f1 f i11_5)], M_11)) rfl rfl rfl ?_
        refine ml_if (S1 := (55, [(0, .ref m0), (5, .int i11_5)], [], M_11)) (S2 := (31, [(7, .int (f1 f i11_5)), (0, .ref m0), (1, .int x1), (4, .int i11_4), (5, .int i11_5), (6, .int (x2 + x3))], [], M_11)) rfl rfl rfl (fun c_28 => ?_) (fun c_28 => ?_)
        · have c_28 : (f1 f i11_5) = 0 := of_decide_eq_true c_28
          refine ml_blk 3 (S' := (60, [(0, .ref m0), (5, .int i11_5)], [.int i11_5, .int 6, .ref m0], M_11)) rfl ?_
          refine ml_call (a := [.ref m0, .int 6, .int i11_5]) (rest := []) rfl (hR_11.okc rfl rfl rfl) rfl rfl (rm_wrong hR_11 (by omega)) (fun v33 M34 h35 => ?_)
          obtain ⟨u41, I36, R37, rfl, hR38, hI39, hV40, z42, w43⟩ := h35
          show ml _ _ _ (63, [(0, .ref m0), (5, .int i11_5)], [.int u41], M34) _
          exact ml_ret rfl (r_z (z42)) (⟨_, _, _, rfl, hR38, ((eqI.rf.tr hI_11 (by decide)).tr hI39 (by decide)), ((eqR.rf.tr hV_11 (by decide)).tr hV40 (by decide)), z42, Or.inl w43⟩)
        · have c_28 : ¬ ((f1 f i11_5) = 0) := of_decide_eq_false c_28
          refine ml_blk 2 (S' := (36, [(7, .int (f1 f i11_5)), (0, .ref m0), (1, .int x1), (4, .int i11_4), (5, .int i11_5), (6, .int (x2 + x3))], [.int 240, .int (f1 f i11_5)], M_11)) rfl ?_
          refine ml_if2 (S1 := (55, [(0, .ref m0), (5, .int i11_5)], [], M_11)) (S2 := (39, [(7, .int (f1 f i11_5)), (0, .ref m0), (1, .int x1), (4, .int i11_4), (5, .int i11_5), (6, .int (x2 + x3))], [], M_11)) rfl rfl rfl (fun c_36 => ?_) (fun c_36 => ?_)
          · have c_36 : 240 ≤ (f1 f i11_5) := of_decide_eq_true c_36
            refine ml_blk 3 (S' := (60, [(0, .ref m0), (5, .int i11_5)], [.int i11_5, .int 6, .ref m0], M_11)) rfl ?_
            refine ml_call (a := [.ref m0, .int 6, .int i11_5]) (rest := []) rfl (hR_11.okc rfl rfl rfl) rfl rfl (rm_wrong hR_11 (by omega)) (fun v44 M45 h46 => ?_)
            obtain ⟨u52, I47, R48, rfl, hR49, hI50, hV51, z53, w54⟩ := h46
            show ml _ _ _ (63, [(0, .ref m0), (5, .int i11_5)], [.int u52], M45) _
            exact ml_ret rfl (r_z (z53)) (⟨_, _, _, rfl, hR49, ((eqI.rf.tr hI_11 (by decide)).tr hI50 (by decide)), ((eqR.rf.tr hV_11 (by decide)).tr hV51 (by decide)), z53, Or.inl w54⟩)
          · have c_36 : ¬ (240 ≤ (f1 f i11_5)) := of_decide_eq_false c_36
            refine ml_blk 2 (S' := (44, [(7, .int (f1 f i11_5)), (0, .ref m0), (1, .int x1), (4, .int i11_4), (5, .int i11_5), (6, .int (x2 + x3))], [.int 128, .int (f1 f i11_5)], M_11)) rfl ?_
            have J_64 : ml (mT g) d (mb_252 g).2 (64, [(0, .ref m0), (1, .int x1), (4, .int i11_4), (5, .int i11_5), (6, .int (x2 + x3)), (7, .int (f1 f i11_5))], [], M_11) (fun v M' => ∃ (x : Int32) (I' : rI) (R' : rR), v = some (.int x) ∧ RS g m0 q z I' R' M' ∧ eqI [3, 8, 47, 48] I I' ∧ eqR [1, 2, 4, 5, 6, 7, 22] R R' ∧ (x = 0 ∨ x = 1) ∧ (x = 0 ∨ ∃ S' cN' : Nat, SYM S' cN' I' R' ∧ S ≤ S' ∧ S' ≤ S + 1 ∧ (cN' : Int) ≤ cN + x3.toInt ∧ (∃ sy, R' 22 x1.toNatClampNeg = some sy ∧ 0 ≤ sy.toInt ∧ sy.toInt < S') ∧ ∀ b, b ≠ x1.toNatClampNeg → R' 22 b = R 22 b)) := by
              refine ml_blk 2 (S' := (69, [(0, .ref m0), (1, .int x1), (4, .int i11_4), (5, .int i11_5), (6, .int (x2 + x3)), (7, .int (f1 f i11_5))], [.int 128, .int (f1 f i11_5)], M_11)) rfl ?_
              have J_89 : ∀ (s89_0 : Int32), (s89_0 = 0 ∨ s89_0 = 1 ∨ s89_0 = 2) → ml (mT g) d (mb_252 g).2 (89, [(0, .ref m0), (1, .int x1), (4, .int i11_4), (5, .int i11_5), (6, .int (x2 + x3)), (7, .int (f1 f i11_5))], [.int s89_0], M_11) (fun v M' => ∃ (x : Int32) (I' : rI) (R' : rR), v = some (.int x) ∧ RS g m0 q z I' R' M' ∧ eqI [3, 8, 47, 48] I I' ∧ eqR [1, 2, 4, 5, 6, 7, 22] R R' ∧ (x = 0 ∨ x = 1) ∧ (x = 0 ∨ ∃ S' cN' : Nat, SYM S' cN' I' R' ∧ S ≤ S' ∧ S' ≤ S + 1 ∧ (cN' : Int) ≤ cN + x3.toInt ∧ (∃ sy, R' 22 x1.toNatClampNeg = some sy ∧ 0 ≤ sy.toInt ∧ sy.toInt < S') ∧ ∀ b, b ≠ x1.toNatClampNeg → R' 22 b = R 22 b)) := by
                intro s89_0 hj_89
                refine ml_st (S' := (91, [(8, .int s89_0), (0, .ref m0), (1, .int x1), (4, .int i11_4), (5, .int i11_5), (6, .int (x2 + x3)), (7, .int (f1 f i11_5))], [], M_11)) rfl rfl rfl ?_
                refine ml_st (S' := (92, [(8, .int s89_0), (0, .ref m0), (1, .int x1), (4, .int i11_4), (5, .int i11_5), (6, .int (x2 + x3)), (7, .int (f1 f i11_5))], [.int 1], M_11)) rfl rfl rfl ?_
                refine ml_st (S' := (94, [(0, .ref m0), (1, .int x1), (4, .int i11_4), (5, .int i11_5), (6, .int (x2 + x3)), (7, .int (f1 f i11_5)), (8, .int s89_0), (9, .int 1)], [], M_11)) rfl rfl rfl ?_
                have L_94 : ∀ (n_94 : Nat) (i94_9 : Int32), (2147483648 - i94_9.toInt).toNat ≤ n_94 → (1 ≤ i94_9.toInt ∧ i94_9.toInt ≤ s89_0.toInt + 1 ∧ i11_5.toInt + i94_9.toInt - 1 < (x2 + x3).toInt) → ml (mT g) d (mb_252 g).2 (94, [(0, .ref m0), (1, .int x1), (4, .int i11_4), (5, .int i11_5), (6, .int (x2 + x3)), (7, .int (f1 f i11_5)), (8, .int s89_0), (9, .int i94_9)], [], M_11) (fun v M' => ∃ (x : Int32) (I' : rI) (R' : rR), v = some (.int x) ∧ RS g m0 q z I' R' M' ∧ eqI [3, 8, 47, 48] I I' ∧ eqR [1, 2, 4, 5, 6, 7, 22] R R' ∧ (x = 0 ∨ x = 1) ∧ (x = 0 ∨ ∃ S' cN' : Nat, SYM S' cN' I' R' ∧ S ≤ S' ∧ S' ≤ S + 1 ∧ (cN' : Int) ≤ cN + x3.toInt ∧ (∃ sy, R' 22 x1.toNatClampNeg = some sy ∧ 0 ≤ sy.toInt ∧ sy.toInt < S') ∧ ∀ b, b ≠ x1.toNatClampNeg → R' 22 b = R 22 b)) := by
                  intro n_94
                  induction n_94 with
                  | zero => intro i94_9 hn; exact (loop_zero hn).elim
                  | succ n_94 ih_94 =>
                    intro i94_9 hn_94 hi_94
                    obtain ⟨hq0, hq1, hq2⟩ := hi_94
                    refine ml_blk 2 (S' := (98, [(0, .ref m0), (1, .int x1), (4, .int i11_4), (5, .int i11_5), (6, .int (x2 + x3)), (7, .int (f1 f i11_5)), (8, .int s89_0), (9, .int i94_9)], [.int s89_0, .int i94_9], M_11)) rfl ?_
                    refine ml_if2 (S1 := (145, [(0, .ref m0), (1, .int x1), (4, .int i11_4), (5, .int i11_5), (6, .int (x2 + x3)), (7, .int (f1 f i11_5)), (8, .int s89_0), (9, .int i94_9)], [], M_11)) (S2 := (101, [(0, .ref m0), (1, .int x1), (4, .int i11_4), (5, .int i11_5), (6, .int (x2 + x3)), (7, .int (f1 f i11_5)), (8, .int s89_0), (9, .int i94_9)], [], M_11)) rfl rfl rfl (fun c_98 => ?_) (fun c_98 => ?_)
                    · have c_98 : s89_0 < i94_9 := of_decide_eq_true c_98
                      have hmo : s89_0.toInt ≤ 2 ∧ 0 ≤ s89_0.toInt := by rcases hj_89 with rfl | rfl | rfl <;> decide
                      have hq7 := i_lt c_98
                      have hmn : (i11_4 + 1).toInt = i11_4.toInt + 1 := i_add (by have : (1 : Int32).toInt = 1 := rfl; omega) (by have : (1 : Int32).toInt = 1 := rfl; omega)
                      have hmo1 : (s89_0 + 1).toInt = s89_0.toInt + 1 := i_add (by have : (1 : Int32).toInt = 1 := rfl; omega) (by have : (1 : Int32).toInt = 1 := rfl; omega)
                      have hpn : (i11_5 + (s89_0 + 1)).toInt = i11_5.toInt + s89_0.toInt + 1 := by rw [i_add (by omega) (by omega)]; omega
                      have hp_1 : (i11_5 + 1).toInt = i11_5.toInt + 1 := i_add (by have : (1 : Int32).toInt = 1 := rfl; omega) (by have : (1 : Int32).toInt = 1 := rfl; omega)
                      have hp_2 : (i11_5 + 2).toInt = i11_5.toInt + 2 := i_add (by have : (2 : Int32).toInt = 2 := rfl; omega) (by have : (2 : Int32).toInt = 2 := rfl; omega)
                      refine ml_st (S' := (146, [(0, .ref m0), (1, .int x1), (4, .int i11_4), (5, .int i11_5), (6, .int (x2 + x3)), (7, .int (f1 f i11_5)), (8, .int s89_0), (9, .int i94_9)], [.ref m0], M_11)) rfl rfl rfl ?_
                      refine rg_ref (S' := (149, [(0, .ref m0), (1, .int x1), (4, .int i11_4), (5, .int i11_5), (6, .int (x2 + x3)), (7, .int (f1 f i11_5)), (8, .int s89_0), (9, .int i94_9)], [.ref (q 2)], M_11)) rfl hR_11 rfl rfl ?_
                      refine ml_st (S' := (151, [(0, .ref m0), (1, .int x1), (4, .int i11_4), (5, .int i11_5), (6, .int (x2 + x3)), (7, .int (f1 f i11_5)), (8, .int s89_0), (9, .int i94_9)], [.int i11_4, .ref (q 2)], M_11)) rfl rfl rfl ?_
                      refine ml_st (S' := (154, [(4, .int (i11_4 + 1)), (0, .ref m0), (1, .int x1), (5, .int i11_5), (6, .int (x2 + x3)), (7, .int (f1 f i11_5)), (8, .int s89_0), (9, .int i94_9)], [.int i11_4, .ref (q 2)], M_11)) rfl rfl rfl ?_
                      refine ml_st (S' := (156, [(4, .int (i11_4 + 1)), (0, .ref m0), (1, .int x1), (5, .int i11_5), (6, .int (x2 + x3)), (7, .int (f1 f i11_5)), (8, .int s89_0), (9, .int i94_9)], [.int s89_0, .int i11_4, .ref (q 2)], M_11)) rfl rfl rfl ?_
                      refine ml_if (S1 := (164, [(4, .int (i11_4 + 1)), (0, .ref m0), (1, .int x1), (5, .int i11_5), (6, .int (x2 + x3)), (7, .int (f1 f i11_5)), (8, .int s89_0), (9, .int i94_9)], [.int i11_4, .ref (q 2)], M_11)) (S2 := (159, [(4, .int (i11_4 + 1)), (0, .ref m0), (1, .int x1), (5, .int i11_5), (6, .int (x2 + x3)), (7, .int (f1 f i11_5)), (8, .int s89_0), (9, .int i94_9)], [.int i11_4, .ref (q 2)], M_11)) rfl rfl rfl (fun c_156 => ?_) (fun c_156 => ?_)
                      · have c_156 : ¬ s89_0 = 0 := of_decide_eq_true c_156
                        refine ml_blk 2 (S' := (167, [(4, .int (i11_4 + 1)), (0, .ref m0), (1, .int x1), (5, .int i11_5), (6, .int (x2 + x3)), (7, .int (f1 f i11_5)), (8, .int s89_0), (9, .int i94_9)], [.int 1, .int s89_0, .int i11_4, .ref (q 2)], M_11)) rfl ?_
                        refine ml_if2 (S1 := (193, [(4, .int (i11_4 + 1)), (0, .ref m0), (1, .int x1), (5, .int i11_5), (6, .int (x2 + x3)), (7, .int (f1 f i11_5)), (8, .int s89_0), (9, .int i94_9)], [.int i11_4, .ref (q 2)], M_11)) (S2 := (170, [(4, .int (i11_4 + 1)), (0, .ref m0), (1, .int x1), (5, .int i11_5), (6, .int (x2 + x3)), (7, .int (f1 f i11_5)), (8, .int s89_0), (9, .int i94_9)], [.int i11_4, .ref (q 2)], M_11)) rfl rfl rfl (fun c_167 => ?_) (fun c_167 => ?_)
                        · have c_167 : ¬ s89_0 = 1 := of_decide_eq_true c_167
                          refine ml_blk 3 (S' := (198, [(4, .int (i11_4 + 1)), (0, .ref m0), (1, .int x1), (5, .int i11_5), (6, .int (x2 + x3)), (7, .int (f1 f i11_5)), (8, .int s89_0), (9, .int i94_9)], [.int ((f1 f i11_5) &&& 15), .int i11_4, .ref (q 2)], M_11)) rfl ?_
                          refine ml_blk 3 (S' := (202, [(4, .int (i11_4 + 1)), (0, .ref m0), (1, .int x1), (5, .int i11_5), (6, .int (x2 + x3)), (7, .int (f1 f i11_5)), (8, .int s89_0), (9, .int i94_9)], [.ref m0, .int (((f1 f i11_5) &&& 15) <<< (12 &&& 31)), .int i11_4, .ref (q 2)], M_11)) rfl ?_
                          refine ml_blk 3 (S' := (206, [(4, .int (i11_4 + 1)), (0, .ref m0), (1, .int x1), (5, .int i11_5), (6, .int (x2 + x3)), (7, .int (f1 f i11_5)), (8, .int s89_0), (9, .int i94_9)], [.int (i11_5 + 1), .ref m0, .int (((f1 f i11_5) &&& 15) <<< (12 &&& 31)), .int i11_4, .ref (q 2)], M_11)) rfl ?_
                          refine ml_call (a := [.ref m0, .int (i11_5 + 1)]) (rest := [.int (((f1 f i11_5) &&& 15) <<< (12 &&& 31)), .int i11_4, .ref (q 2)]) rfl (hR_11.okc rfl rfl rfl) rfl rfl (rm_u1 hR_11 hF29 (by omega) (by have h1 : s89_0.toInt = 2 := (by rcases hj_89 with q | q | q; exact absurd q c_156; exact absurd q c_167; (rw [q]; rfl)); omega) (by omega)) (fun v55 M56 h57 => ?_)
                          obtain ⟨rfl, h57⟩ := h57
                          rw [h57]
                          show ml _ _ _ (209, [(4, .int (i11_4 + 1)), (0, .ref m0), (1, .int x1), (5, .int i11_5), (6, .int (x2 + x3)), (7, .int (f1 f i11_5)), (8, .int s89_0), (9, .int i94_9)], [.int (f1 f (i11_5 + 1)), .int (((f1 f i11_5) &&& 15) <<< (12 &&& 31)), .int i11_4, .ref (q 2)], M_11) _
                          refine ml_blk 3 (S' := (214, [(4, .int (i11_4 + 1)), (0, .ref m0), (1, .int x1), (5, .int i11_5), (6, .int (x2 + x3)), (7, .int (f1 f i11_5)), (8, .int s89_0), (9, .int i94_9)], [.int 6, .int ((f1 f (i11_5 + 1)) &&& 63), .int (((f1 f i11_5) &&& 15) <<< (12 &&& 31)), .int i11_4, .ref (q 2)], M_11)) rfl ?_
                          refine ml_blk 3 (S' := (217, [(4, .int (i11_4 + 1)), (0, .ref m0), (1, .int x1), (5, .int i11_5), (6, .int (x2 + x3)), (7, .int (f1 f i11_5)), (8, .int s89_0), (9, .int i94_9)], [.ref m0, .int ((((f1 f i11_5) &&& 15) <<< (12 &&& 31)) ||| (((f1 f (i11_5 + 1)) &&& 63) <<< (6 &&& 31))), .int i11_4, .ref (q 2)], M_11)) rfl ?_
                          refine ml_blk 3 (S' := (221, [(4, .int (i11_4 + 1)), (0, .ref m0), (1, .int x1), (5, .int i11_5), (6, .int (x2 + x3)), (7, .int (f1 f i11_5)), (8, .int s89_0), (9, .int i94_9)], [.int (i11_5 + 2), .ref m0, .int ((((f1 f i11_5) &&& 15) <<< (12 &&& 31)) ||| (((f1 f (i11_5 + 1)) &&& 63) <<< (6 &&& 31))), .int i11_4, .ref (q 2)], M_11)) rfl ?_
                          refine ml_call (a := [.ref m0, .int (i11_5 + 2)]) (rest := [.int ((((f1 f i11_5) &&& 15) <<< (12 &&& 31)) ||| (((f1 f (i11_5 + 1)) &&& 63) <<< (6 &&& 31))), .int i11_4, .ref (q 2)]) rfl (hR_11.okc rfl rfl rfl) rfl rfl (rm_u1 hR_11 hF29 (by omega) (by have h1 : s89_0.toInt = 2 := (by rcases hj_89 with q | q | q; exact absurd q c_156; exact absurd q c_167; (rw [q]; rfl)); omega) (by omega)) (fun v58 M59 h60 => ?_)
                          obtain ⟨rfl, h60⟩ := h60
                          rw [h60]
                          show ml _ _ _ (224, [(4, .int (i11_4 + 1)), (0, .ref m0), (1, .int x1), (5, .int i11_5), (6, .int (x2 + x3)), (7, .int (f1 f i11_5)), (8, .int s89_0), (9, .int i94_9)], [.int (f1 f (i11_5 + 2)), .int ((((f1 f i11_5) &&& 15) <<< (12 &&& 31)) ||| (((f1 f (i11_5 + 1)) &&& 63) <<< (6 &&& 31))), .int i11_4, .ref (q 2)], M_11) _
                          refine ml_blk 3 (S' := (228, [(0, .ref m0), (1, .int x1), (4, .int (i11_4 + 1)), (5, .int i11_5), (6, .int (x2 + x3)), (8, .int s89_0)], [.int (((((f1 f i11_5) &&& 15) <<< (12 &&& 31)) ||| (((f1 f (i11_5 + 1)) &&& 63) <<< (6 &&& 31))) ||| ((f1 f (i11_5 + 2)) &&& 63)), .int i11_4, .ref (q 2)], M_11)) rfl ?_
                          refine ml_st (S' := (229, [(0, .ref m0), (1, .int x1), (4, .int (i11_4 + 1)), (5, .int i11_5), (6, .int (x2 + x3)), (8, .int s89_0)], [.int (((((((f1 f i11_5) &&& 15) <<< (12 &&& 31)) ||| (((f1 f (i11_5 + 1)) &&& 63) <<< (6 &&& 31))) ||| ((f1 f (i11_5 + 2)) &&& 63)).toUInt32 % 65536).toInt32), .int i11_4, .ref (q 2)], M_11)) rfl rfl rfl ?_
                          refine ra_st (k := 2) rfl hR_11 rfl (vin_lt hm0 (by omega)) (fun M61 R62 hR63 e64 g65 f66 => ?_)
                          show ml _ _ _ (230, [(0, .ref m0), (1, .int x1), (4, .int (i11_4 + 1)), (5, .int i11_5), (6, .int (x2 + x3)), (8, .int s89_0)], [], M61) _
                          refine ml_blk 3 (S' := (235, [(0, .ref m0), (1, .int x1), (4, .int (i11_4 + 1)), (5, .int i11_5), (6, .int (x2 + x3)), (8, .int s89_0)], [.int 1, .int s89_0, .int i11_5], M61)) rfl ?_
                          refine ml_blk 2 (S' := (237, [(0, .ref m0), (1, .int x1), (4, .int (i11_4 + 1)), (5, .int i11_5), (6, .int (x2 + x3)), (8, .int s89_0)], [.int (i11_5 + (s89_0 + 1))], M61)) rfl ?_
                          refine ml_st (S' := (239, [(5, .int (i11_5 + (s89_0 + 1))), (0, .ref m0), (1, .int x1), (4, .int (i11_4 + 1)), (6, .int (x2 + x3)), (8, .int s89_0)], [], M61)) rfl rfl rfl ?_
                          refine ml_st (S' := (11, [(0, .ref m0), (1, .int x1), (4, .int (i11_4 + 1)), (5, .int (i11_5 + (s89_0 + 1))), (6, .int (x2 + x3))], [], M61)) rfl rfl rfl ?_
                          exact ih_11 (i11_4 + 1) (i11_5 + (s89_0 + 1)) _ _ _ (by rw [hpn]; omega) hR63 (eqI.rf.tr hI_11 (by decide)) ((eqR.rf.tr hV_11 (by decide)).put f66 (by decide)) (⟨by rw [hpn]; omega, by rw [hpn]; omega, by omega, by rw [hpn]; omega, CUe.put (R := R_11) (hcu) hm0 e64 (ch16_vn _) g65 hmn⟩)
                        · have c_167 : ¬ (¬ s89_0 = 1) := of_decide_eq_false c_167
                          refine ml_blk 3 (S' := (175, [(4, .int (i11_4 + 1)), (0, .ref m0), (1, .int x1), (5, .int i11_5), (6, .int (x2 + x3)), (7, .int (f1 f i11_5)), (8, .int s89_0), (9, .int i94_9)], [.int ((f1 f i11_5) &&& 31), .int i11_4, .ref (q 2)], M_11)) rfl ?_
                          refine ml_blk 3 (S' := (179, [(4, .int (i11_4 + 1)), (0, .ref m0), (1, .int x1), (5, .int i11_5), (6, .int (x2 + x3)), (7, .int (f1 f i11_5)), (8, .int s89_0), (9, .int i94_9)], [.ref m0, .int (((f1 f i11_5) &&& 31) <<< (6 &&& 31)), .int i11_4, .ref (q 2)], M_11)) rfl ?_
                          refine ml_blk 3 (S' := (183, [(4, .int (i11_4 + 1)), (0, .ref m0), (1, .int x1), (5, .int i11_5), (6, .int (x2 + x3)), (7, .int (f1 f i11_5)), (8, .int s89_0), (9, .int i94_9)], [.int (i11_5 + 1), .ref m0, .int (((f1 f i11_5) &&& 31) <<< (6 &&& 31)), .int i11_4, .ref (q 2)], M_11)) rfl ?_
                          refine ml_call (a := [.ref m0, .int (i11_5 + 1)]) (rest := [.int (((f1 f i11_5) &&& 31) <<< (6 &&& 31)), .int i11_4, .ref (q 2)]) rfl (hR_11.okc rfl rfl rfl) rfl rfl (rm_u1 hR_11 hF29 (by omega) (by have h1 : s89_0.toInt = 1 := (by have q := Decidable.not_not.mp c_167; rw [q]; rfl); omega) (by omega)) (fun v67 M68 h69 => ?_)
                          obtain ⟨rfl, h69⟩ := h69
                          rw [h69]
                          show ml _ _ _ (186, [(4, .int (i11_4 + 1)), (0, .ref m0), (1, .int x1), (5, .int i11_5), (6, .int (x2 + x3)), (7, .int (f1 f i11_5)), (8, .int s89_0), (9, .int i94_9)], [.int (f1 f (i11_5 + 1)), .int (((f1 f i11_5) &&& 31) <<< (6 &&& 31)), .int i11_4, .ref (q 2)], M_11) _
                          refine ml_blk 3 (S' := (190, [(4, .int (i11_4 + 1)), (0, .ref m0), (1, .int x1), (5, .int i11_5), (6, .int (x2 + x3)), (7, .int (f1 f i11_5)), (8, .int s89_0), (9, .int i94_9)], [.int ((((f1 f i11_5) &&& 31) <<< (6 &&& 31)) ||| ((f1 f (i11_5 + 1)) &&& 63)), .int i11_4, .ref (q 2)], M_11)) rfl ?_
                          refine ml_st (S' := (228, [(0, .ref m0), (1, .int x1), (4, .int (i11_4 + 1)), (5, .int i11_5), (6, .int (x2 + x3)), (8, .int s89_0)], [.int ((((f1 f i11_5) &&& 31) <<< (6 &&& 31)) ||| ((f1 f (i11_5 + 1)) &&& 63)), .int i11_4, .ref (q 2)], M_11)) rfl rfl rfl ?_
                          refine ml_st (S' := (229, [(0, .ref m0), (1, .int x1), (4, .int (i11_4 + 1)), (5, .int i11_5), (6, .int (x2 + x3)), (8, .int s89_0)], [.int ((((((f1 f i11_5) &&& 31) <<< (6 &&& 31)) ||| ((f1 f (i11_5 + 1)) &&& 63)).toUInt32 % 65536).toInt32), .int i11_4, .ref (q 2)], M_11)) rfl rfl rfl ?_
                          refine ra_st (k := 2) rfl hR_11 rfl (vin_lt hm0 (by omega)) (fun M70 R71 hR72 e73 g74 f75 => ?_)
                          show ml _ _ _ (230, [(0, .ref m0), (1, .int x1), (4, .int (i11_4 + 1)), (5, .int i11_5), (6, .int (x2 + x3)), (8, .int s89_0)], [], M70) _
                          refine ml_blk 3 (S' := (235, [(0, .ref m0), (1, .int x1), (4, .int (i11_4 + 1)), (5, .int i11_5), (6, .int (x2 + x3)), (8, .int s89_0)], [.int 1, .int s89_0, .int i11_5], M70)) rfl ?_
                          refine ml_blk 2 (S' := (237, [(0, .ref m0), (1, .int x1), (4, .int (i11_4 + 1)), (5, .int i11_5), (6, .int (x2 + x3)), (8, .int s89_0)], [.int (i11_5 + (s89_0 + 1))], M70)) rfl ?_
                          refine ml_st (S' := (239, [(5, .int (i11_5 + (s89_0 + 1))), (0, .ref m0), (1, .int x1), (4, .int (i11_4 + 1)), (6, .int (x2 + x3)), (8, .int s89_0)], [], M70)) rfl rfl rfl ?_
                          refine ml_st (S' := (11, [(0, .ref m0), (1, .int x1), (4, .int (i11_4 + 1)), (5, .int (i11_5 + (s89_0 + 1))), (6, .int (x2 + x3))], [], M70)) rfl rfl rfl ?_
                          exact ih_11 (i11_4 + 1) (i11_5 + (s89_0 + 1)) _ _ _ (by rw [hpn]; omega) hR72 (eqI.rf.tr hI_11 (by decide)) ((eqR.rf.tr hV_11 (by decide)).put f75 (by decide)) (⟨by rw [hpn]; omega, by rw [hpn]; omega, by omega, by rw [hpn]; omega, CUe.put (R := R_11) (hcu) hm0 e73 (ch16_vn _) g74 hmn⟩)
                      · have c_156 : ¬ (¬ s89_0 = 0) := of_decide_eq_false c_156
                        refine ml_st (S' := (161, [(4, .int (i11_4 + 1)), (0, .ref m0), (1, .int x1), (5, .int i11_5), (6, .int (x2 + x3)), (7, .int (f1 f i11_5)), (8, .int s89_0), (9, .int i94_9)], [.int (f1 f i11_5), .int i11_4, .ref (q 2)], M_11)) rfl rfl rfl ?_
                        refine ml_st (S' := (228, [(0, .ref m0), (1, .int x1), (4, .int (i11_4 + 1)), (5, .int i11_5), (6, .int (x2 + x3)), (8, .int s89_0)], [.int (f1 f i11_5), .int i11_4, .ref (q 2)], M_11)) rfl rfl rfl ?_
                        refine ml_st (S' := (229, [(0, .ref m0), (1, .int x1), (4, .int (i11_4 + 1)), (5, .int i11_5), (6, .int (x2 + x3)), (8, .int s89_0)], [.int (((f1 f i11_5).toUInt32 % 65536).toInt32), .int i11_4, .ref (q 2)], M_11)) rfl rfl rfl ?_
                        refine ra_st (k := 2) rfl hR_11 rfl (vin_lt hm0 (by omega)) (fun M76 R77 hR78 e79 g80 f81 => ?_)
                        show ml _ _ _ (230, [(0, .ref m0), (1, .int x1), (4, .int (i11_4 + 1)), (5, .int i11_5), (6, .int (x2 + x3)), (8, .int s89_0)], [], M76) _
                        refine ml_blk 3 (S' := (235, [(0, .ref m0), (1, .int x1), (4, .int (i11_4 + 1)), (5, .int i11_5), (6, .int (x2 + x3)), (8, .int s89_0)], [.int 1, .int s89_0, .int i11_5], M76)) rfl ?_
                        refine ml_blk 2 (S' := (237, [(0, .ref m0), (1, .int x1), (4, .int (i11_4 + 1)), (5, .int i11_5), (6, .int (x2 + x3)), (8, .int s89_0)], [.int (i11_5 + (s89_0 + 1))], M76)) rfl ?_
                        refine ml_st (S' := (239, [(5, .int (i11_5 + (s89_0 + 1))), (0, .ref m0), (1, .int x1), (4, .int (i11_4 + 1)), (6, .int (x2 + x3)), (8, .int s89_0)], [], M76)) rfl rfl rfl ?_
                        refine ml_st (S' := (11, [(0, .ref m0), (1, .int x1), (4, .int (i11_4 + 1)), (5, .int (i11_5 + (s89_0 + 1))), (6, .int (x2 + x3))], [], M76)) rfl rfl rfl ?_
                        exact ih_11 (i11_4 + 1) (i11_5 + (s89_0 + 1)) _ _ _ (by rw [hpn]; omega) hR78 (eqI.rf.tr hI_11 (by decide)) ((eqR.rf.tr hV_11 (by decide)).put f81 (by decide)) (⟨by rw [hpn]; omega, by rw [hpn]; omega, by omega, by rw [hpn]; omega, CUe.put (R := R_11) (hcu) hm0 e79 (ch16_vn _) g80 hmn⟩)
                    · have c_98 : ¬ (s89_0 < i94_9) := of_decide_eq_false c_98
                      have hmo : s89_0.toInt ≤ 2 := by rcases hj_89 with rfl | rfl | rfl <;> decide
                      have hq4 : (i11_5 + i94_9).toInt = i11_5.toInt + i94_9.toInt := i_add (by omega) (by have := i_nlt c_98; omega)
                      have hq5 : (i94_9 + 1).toInt = i94_9.toInt + 1 := i_add (by have : (1 : Int32).toInt = 1 := rfl; omega) (by have : (1 : Int32).toInt = 1 := rfl; have := i_nlt c_98; omega)
                      refine ml_blk 3 (S' := (106, [(0, .ref m0), (1, .int x1), (4, .int i11_4), (5, .int i11_5), (6, .int (x2 + x3)), (7, .int (f1 f i11_5)), (8, .int s89_0), (9, .int i94_9)], [.int (i11_5 + i94_9)], M_11)) rfl ?_
                      refine ml_st (S' := (108, [(0, .ref m0), (1, .int x1), (4, .int i11_4), (5, .int i11_5), (6, .int (x2 + x3)), (7, .int (f1 f i11_5)), (8, .int s89_0), (9, .int i94_9)], [.int (x2 + x3), .int (i11_5 + i94_9)], M_11)) rfl rfl rfl ?_
                      refine ml_if2 (S1 := (130, [(0, .ref m0), (5, .int i11_5)], [], M_11)) (S2 := (111, [(0, .ref m0), (1, .int x1), (4, .int i11_4), (5, .int i11_5), (6, .int (x2 + x3)), (7, .int (f1 f i11_5)), (8, .int s89_0), (9, .int i94_9)], [], M_11)) rfl rfl rfl (fun c_108 => ?_) (fun c_108 => ?_)
                      · have c_108 : (x2 + x3) ≤ (i11_5 + i94_9) := of_decide_eq_true c_108
                        refine ml_blk 3 (S' := (135, [(0, .ref m0), (5, .int i11_5)], [.int i11_5, .int 6, .ref m0], M_11)) rfl ?_
                        refine ml_call (a := [.ref m0, .int 6, .int i11_5]) (rest := []) rfl (hR_11.okc rfl rfl rfl) rfl rfl (rm_wrong hR_11 (by omega)) (fun v82 M83 h84 => ?_)
                        obtain ⟨u90, I85, R86, rfl, hR87, hI88, hV89, z91, w92⟩ := h84
                        show ml _ _ _ (138, [(0, .ref m0), (5, .int i11_5)], [.int u90], M83) _
                        exact ml_ret rfl (r_z (z91)) (⟨_, _, _, rfl, hR87, ((eqI.rf.tr hI_11 (by decide)).tr hI88 (by decide)), ((eqR.rf.tr hV_11 (by decide)).tr hV89 (by decide)), z91, Or.inl w92⟩)
                      · have c_108 : ¬ ((x2 + x3) ≤ (i11_5 + i94_9)) := of_decide_eq_false c_108
                        refine ml_blk 3 (S' := (116, [(0, .ref m0), (1, .int x1), (4, .int i11_4), (5, .int i11_5), (6, .int (x2 + x3)), (7, .int (f1 f i11_5)), (8, .int s89_0), (9, .int i94_9)], [.int i94_9, .int i11_5, .ref m0], M_11)) rfl ?_
                        refine ml_st (S' := (117, [(0, .ref m0), (1, .int x1), (4, .int i11_4), (5, .int i11_5), (6, .int (x2 + x3)), (7, .int (f1 f i11_5)), (8, .int s89_0), (9, .int i94_9)], [.int (i11_5 + i94_9), .ref m0], M_11)) rfl rfl rfl ?_
                        refine ml_call (a := [.ref m0, .int (i11_5 + i94_9)]) (rest := []) rfl (hR_11.okc rfl rfl rfl) rfl rfl (rm_u1 hR_11 hF29 (by omega) (by have := i_nle c_108; omega) (by omega)) (fun v93 M94 h95 => ?_)
                        obtain ⟨rfl, h95⟩ := h95
                        rw [h95]
                        show ml _ _ _ (120, [(0, .ref m0), (1, .int x1), (4, .int i11_4), (5, .int i11_5), (6, .int (x2 + x3)), (7, .int (f1 f i11_5)), (8, .int s89_0), (9, .int i94_9)], [.int (f1 f (i11_5 + i94_9))], M_11) _
                        refine ml_blk 3 (S' := (127, [(0, .ref m0), (1, .int x1), (4, .int i11_4), (5, .int i11_5), (6, .int (x2 + x3)), (7, .int (f1 f i11_5)), (8, .int s89_0), (9, .int i94_9)], [.int 128, .int ((f1 f (i11_5 + i94_9)) &&& 192)], M_11)) rfl ?_
                        refine ml_if2 (S1 := (139, [(0, .ref m0), (1, .int x1), (4, .int i11_4), (5, .int i11_5), (6, .int (x2 + x3)), (7, .int (f1 f i11_5)), (8, .int s89_0), (9, .int i94_9)], [], M_11)) (S2 := (130, [(0, .ref m0), (5, .int i11_5)], [], M_11)) rfl rfl rfl (fun c_127 => ?_) (fun c_127 => ?_)
                        · have c_127 : ((f1 f (i11_5 + i94_9)) &&& 192) = 128 := of_decide_eq_true c_127
                          refine ml_st (S' := (142, [(9, .int (i94_9 + 1)), (0, .ref m0), (1, .int x1), (4, .int i11_4), (5, .int i11_5), (6, .int (x2 + x3)), (7, .int (f1 f i11_5)), (8, .int s89_0)], [], M_11)) rfl rfl rfl ?_
                          refine ml_st (S' := (94, [(0, .ref m0), (1, .int x1), (4, .int i11_4), (5, .int i11_5), (6, .int (x2 + x3)), (7, .int (f1 f i11_5)), (8, .int s89_0), (9, .int (i94_9 + 1))], [], M_11)) rfl rfl rfl ?_
                          exact ih_94 (i94_9 + 1) (by rw [hq5]; omega) (⟨by rw [hq5]; omega, by rw [hq5]; have := i_nlt c_98; omega, by rw [hq5]; have := i_nle c_108; omega⟩)
                        · have c_127 : ¬ (((f1 f (i11_5 + i94_9)) &&& 192) = 128) := of_decide_eq_false c_127
                          refine ml_blk 3 (S' := (135, [(0, .ref m0), (5, .int i11_5)], [.int i11_5, .int 6, .ref m0], M_11)) rfl ?_
                          refine ml_call (a := [.ref m0, .int 6, .int i11_5]) (rest := []) rfl (hR_11.okc rfl rfl rfl) rfl rfl (rm_wrong hR_11 (by omega)) (fun v96 M97 h98 => ?_)
                          obtain ⟨u104, I99, R100, rfl, hR101, hI102, hV103, z105, w106⟩ := h98
                          show ml _ _ _ (138, [(0, .ref m0), (5, .int i11_5)], [.int u104], M97) _
                          exact ml_ret rfl (r_z (z105)) (⟨_, _, _, rfl, hR101, ((eqI.rf.tr hI_11 (by decide)).tr hI102 (by decide)), ((eqR.rf.tr hV_11 (by decide)).tr hV103 (by decide)), z105, Or.inl w106⟩)
                exact L_94 _ 1 (Nat.le_refl _) (⟨by decide, by show (1 : Int) ≤ _; rcases hj_89 with rfl | rfl | rfl <;> decide, by show _ + 1 - 1 < _; omega⟩)
              refine ml_if2 (S1 := (76, [(0, .ref m0), (1, .int x1), (4, .int i11_4), (5, .int i11_5), (6, .int (x2 + x3)), (7, .int (f1 f i11_5))], [], M_11)) (S2 := (72, [(0, .ref m0), (1, .int x1), (4, .int i11_4), (5, .int i11_5), (6, .int (x2 + x3)), (7, .int (f1 f i11_5))], [], M_11)) rfl rfl rfl (fun c_69 => ?_) (fun c_69 => ?_)
              · have c_69 : 128 ≤ (f1 f i11_5) := of_decide_eq_true c_69
                refine ml_blk 2 (S' := (81, [(0, .ref m0), (1, .int x1), (4, .int i11_4), (5, .int i11_5), (6, .int (x2 + x3)), (7, .int (f1 f i11_5))], [.int 224, .int (f1 f i11_5)], M_11)) rfl ?_
                refine ml_if2 (S1 := (88, [(0, .ref m0), (1, .int x1), (4, .int i11_4), (5, .int i11_5), (6, .int (x2 + x3)), (7, .int (f1 f i11_5))], [], M_11)) (S2 := (84, [(0, .ref m0), (1, .int x1), (4, .int i11_4), (5, .int i11_5), (6, .int (x2 + x3)), (7, .int (f1 f i11_5))], [], M_11)) rfl rfl rfl (fun c_81 => ?_) (fun c_81 => ?_)
                · have c_81 : 224 ≤ (f1 f i11_5) := of_decide_eq_true c_81
                  refine ml_st (S' := (89, [(0, .ref m0), (1, .int x1), (4, .int i11_4), (5, .int i11_5), (6, .int (x2 + x3)), (7, .int (f1 f i11_5))], [.int 2], M_11)) rfl rfl rfl ?_
                  exact J_89 2 (Or.inr (Or.inr rfl))
                · have c_81 : ¬ (224 ≤ (f1 f i11_5)) := of_decide_eq_false c_81
                  refine ml_st (S' := (85, [(0, .ref m0), (1, .int x1), (4, .int i11_4), (5, .int i11_5), (6, .int (x2 + x3)), (7, .int (f1 f i11_5))], [.int 1], M_11)) rfl rfl rfl ?_
                  refine ml_st (S' := (89, [(0, .ref m0), (1, .int x1), (4, .int i11_4), (5, .int i11_5), (6, .int (x2 + x3)), (7, .int (f1 f i11_5))], [.int 1], M_11)) rfl rfl rfl ?_
                  exact J_89 1 (Or.inr (Or.inl rfl))
              · have c_69 : ¬ (128 ≤ (f1 f i11_5)) := of_decide_eq_false c_69
                refine ml_st (S' := (73, [(0, .ref m0), (1, .int x1), (4, .int i11_4), (5, .int i11_5), (6, .int (x2 + x3)), (7, .int (f1 f i11_5))], [.int 0], M_11)) rfl rfl rfl ?_
                refine ml_st (S' := (89, [(0, .ref m0), (1, .int x1), (4, .int i11_4), (5, .int i11_5), (6, .int (x2 + x3)), (7, .int (f1 f i11_5))], [.int 0], M_11)) rfl rfl rfl ?_
                exact J_89 0 (Or.inl rfl)
            refine ml_if2 (S1 := (64, [(0, .ref m0), (1, .int x1), (4, .int i11_4), (5, .int i11_5), (6, .int (x2 + x3)), (7, .int (f1 f i11_5))], [], M_11)) (S2 := (47, [(7, .int (f1 f i11_5)), (0, .ref m0), (1, .int x1), (4, .int i11_4), (5, .int i11_5), (6, .int (x2 + x3))], [], M_11)) rfl rfl rfl (fun c_44 => ?_) (fun c_44 => ?_)
            · have c_44 : (f1 f i11_5) < 128 := of_decide_eq_true c_44
              exact J_64 
            · have c_44 : ¬ ((f1 f i11_5) < 128) := of_decide_eq_false c_44
              refine ml_blk 2 (S' := (52, [(7, .int (f1 f i11_5)), (0, .ref m0), (1, .int x1), (4, .int i11_4), (5, .int i11_5), (6, .int (x2 + x3))], [.int 191, .int (f1 f i11_5)], M_11)) rfl ?_
              refine ml_if2 (S1 := (64, [(0, .ref m0), (1, .int x1), (4, .int i11_4), (5, .int i11_5), (6, .int (x2 + x3)), (7, .int (f1 f i11_5))], [], M_11)) (S2 := (55, [(0, .ref m0), (5, .int i11_5)], [], M_11)) rfl rfl rfl (fun c_52 => ?_) (fun c_52 => ?_)
              · have c_52 : 191 < (f1 f i11_5) := of_decide_eq_true c_52
                exact J_64 
              · have c_52 : ¬ (191 < (f1 f i11_5)) := of_decide_eq_false c_52
                refine ml_blk 3 (S' := (60, [(0, .ref m0), (5, .int i11_5)], [.int i11_5, .int 6, .ref m0], M_11)) rfl ?_
                refine ml_call (a := [.ref m0, .int 6, .int i11_5]) (rest := []) rfl (hR_11.okc rfl rfl rfl) rfl rfl (rm_wrong hR_11 (by omega)) (fun v107 M108 h109 => ?_)
                obtain ⟨u115, I110, R111, rfl, hR112, hI113, hV114, z116, w117⟩ := h109
                show ml _ _ _ (63, [(0, .ref m0), (5, .int i11_5)], [.int u115], M108) _
                exact ml_ret rfl (r_z (z116)) (⟨_, _, _, rfl, hR112, ((eqI.rf.tr hI_11 (by decide)).tr hI113 (by decide)), ((eqR.rf.tr hV_11 (by decide)).tr hV114 (by decide)), z116, Or.inl w117⟩)
  exact L_11 _ 0 x2 _ _ _ (Nat.le_refl _) hR eqI.rf eqR.rf (⟨by omega, by omega, by decide, by show (0 : Int) ≤ _; omega, fun j hj => absurd hj (Nat.not_lt_zero j)⟩)
