/-! the reference: texts, the pool (laid by wip/p2/c62.py) -/
set_option maxHeartbeats 2000000 in
theorem rm_symbolS {g : xe_G} {m0 : Nat} {q : Nat → Nat} {z : Nat × Nat} {I : rI} {R : rR} {M : mi_H} {S cN : Nat} {lk : Nat}  (hR : RS g m0 q z I R M) (hZ : SYM S cN I R) (hlk : lk < 30) (hroom : cN + (xe_lt lk).2.2.2.length ≤ 66000) (hS : S < 24000) {d : Nat} (hd : 2 ≤ d) : mt (mT g) d 246 [.ref m0, .ref (g.2.1 lk)] M (fun v M' => ∃ (x : Int32) (I' : rI) (R' : rR), v = some (.int x) ∧ RS g m0 q z I' R' M' ∧ eqI [3, 8] I I' ∧ eqR [1, 2, 4, 5, 6, 7] R R' ∧ SZ S cN (xe_lt lk).2.2.2.length x I' R') := by
  obtain ⟨d, rfl⟩ : ∃ e, d = e + 1 := ⟨d - 1, by omega⟩
  refine mt_in (b := mb_246 g) rfl rfl ?_
  show ml (mT g) d (mb_246 g).2 (0, [(0, .ref m0), (1, .ref (g.2.1 lk))], [], M) _
  refine ml_st (S' := (1, [(0, .ref m0), (1, .ref (g.2.1 lk))], [.int 0], M)) rfl rfl rfl ?_
  refine ml_st (S' := (2, [(0, .ref m0), (1, .ref (g.2.1 lk)), (2, .int 0)], [], M)) rfl rfl rfl ?_
  have L_2 : ∀ (n_2 : Nat) (i2_2 : Int32) (M_2 : mi_H) (I_2 : rI) (R_2 : rR), (2147483648 - i2_2.toInt).toNat ≤ n_2 → RS g m0 q z I_2 R_2 M_2 → eqI [] I I_2 → eqR [2] R R_2 → (0 ≤ i2_2.toInt ∧ i2_2.toInt ≤ (xe_lt lk).2.2.2.length ∧ CUe i2_2.toInt.toNat R_2) → ml (mT g) d (mb_246 g).2 (2, [(0, .ref m0), (1, .ref (g.2.1 lk)), (2, .int i2_2)], [], M_2) (fun v M' => ∃ (x : Int32) (I' : rI) (R' : rR), v = some (.int x) ∧ RS g m0 q z I' R' M' ∧ eqI [3, 8] I I' ∧ eqR [1, 2, 4, 5, 6, 7] R R' ∧ SZ S cN (xe_lt lk).2.2.2.length x I' R') := by
    intro n_2
    induction n_2 with
    | zero => intro i2_2 M_2 I_2 R_2 hn; exact (loop_zero hn).elim
    | succ n_2 ih_2 =>
      intro i2_2 M_2 I_2 R_2 hn_2 hR_2 hI_2 hV_2 hi_2
      refine ml_blk 2 (S' := (4, [(0, .ref m0), (1, .ref (g.2.1 lk)), (2, .int i2_2)], [.ref (g.2.1 lk), .int i2_2], M_2)) rfl ?_
      obtain ⟨fl11, hl12⟩ := hR_2.2.2.2.2.2 lk (Nat.lt_of_lt_of_le hlk (by decide))
      refine ml_slen (lk := lk) (S' := (7, [(0, .ref m0), (1, .ref (g.2.1 lk)), (2, .int i2_2)], [.int (nI (xe_lt lk).2.2.2.length), .int i2_2], M_2)) rfl hl12 hlk rfl rfl ?_
      refine ml_if2 (S1 := (27, [(0, .ref m0), (1, .ref (g.2.1 lk)), (2, .int i2_2)], [], M_2)) (S2 := (10, [(0, .ref m0), (1, .ref (g.2.1 lk)), (2, .int i2_2)], [], M_2)) rfl rfl rfl (fun c_7 => ?_) (fun c_7 => ?_)
      · have c_7 : (nI (xe_lt lk).2.2.2.length) ≤ i2_2 := of_decide_eq_true c_7
        have hle : ((xe_lt lk).2.2.2.length : Int) ≤ i2_2.toInt := by have := i_le c_7; rw [nI_val (by omega)] at this; exact this
        have hcu : CUe (xe_lt lk).2.2.2.length R_2 := fun j hj => hi_2.2.2 j (by omega)
        have hUx := hcu.known (I := I_2)
        refine ml_blk 2 (S' := (29, [(0, .ref m0), (1, .ref (g.2.1 lk)), (2, .int i2_2)], [.ref (g.2.1 lk), .ref m0], M_2)) rfl ?_
        obtain ⟨fl13, hl14⟩ := hR_2.2.2.2.2.2 lk (Nat.lt_of_lt_of_le hlk (by decide))
        refine ml_slen (lk := lk) (S' := (32, [(0, .ref m0), (1, .ref (g.2.1 lk)), (2, .int i2_2)], [.int (nI (xe_lt lk).2.2.2.length), .ref m0], M_2)) rfl hl14 hlk rfl rfl ?_
        have hZ15 : SYM S cN I_2 R_2 := (hZ.mono (cIx hI_2 (by decide)) (cRx hV_2 (by decide)))
        refine ml_call (a := [.ref m0, .int (nI (xe_lt lk).2.2.2.length)]) (rest := []) rfl (hR_2.okc rfl rfl rfl) rfl rfl (rz_symbol hR_2 hZ15 hUx (nI_val (by omega)) (hroom) (hS) (by omega)) (fun v16 M17 h18 => ?_)
        obtain ⟨u24, I19, R20, rfl, hR21, hI22, hV23, w25⟩ := h18
        show ml _ _ _ (35, [(0, .ref m0), (1, .ref (g.2.1 lk)), (2, .int i2_2)], [.int u24], M17) _
        exact ml_ret rfl (rfl) (⟨_, _, _, rfl, hR21, ((eqI.rf.tr hI_2 (by decide)).tr hI22 (by decide)), ((eqR.rf.tr hV_2 (by decide)).tr hV23 (by decide)), w25⟩)
      · have c_7 : ¬ ((nI (xe_lt lk).2.2.2.length) ≤ i2_2) := of_decide_eq_false c_7
        refine ml_st (S' := (11, [(0, .ref m0), (1, .ref (g.2.1 lk)), (2, .int i2_2)], [.ref m0], M_2)) rfl rfl rfl ?_
        refine rg_ref (S' := (14, [(0, .ref m0), (1, .ref (g.2.1 lk)), (2, .int i2_2)], [.ref (q 2)], M_2)) rfl hR_2 rfl rfl ?_
        refine ml_blk 3 (S' := (17, [(0, .ref m0), (1, .ref (g.2.1 lk)), (2, .int i2_2)], [.int i2_2, .ref (g.2.1 lk), .int i2_2, .ref (q 2)], M_2)) rfl ?_
        obtain ⟨fl26, hl27⟩ := hR_2.2.2.2.2.2 lk (Nat.lt_of_lt_of_le hlk (by decide))
        refine ml_scat (lk := lk) (S' := (20, [(0, .ref m0), (1, .ref (g.2.1 lk)), (2, .int i2_2)], [.int (xe_ch lk (Int32.toNatClampNeg i2_2)), .int i2_2, .ref (q 2)], M_2)) rfl hl27 hlk rfl (nlt0 hi_2.1) (by have q := i_nle c_7; rw [nI_val (by omega)] at q; show i2_2.toInt.toNat < _; have := hi_2.1; omega) rfl ?_
        have hlt : i2_2.toInt < (xe_lt lk).2.2.2.length := by have := i_nle c_7; rw [nI_val (by omega)] at this; exact this
        have hn1 : (i2_2 + 1).toInt = i2_2.toInt + 1 := inc_lt (Int32.not_le.mp c_7)
        refine ra_st (k := 2) rfl hR_2 rfl (vin_lt hi_2.1 (by omega)) (fun M28 R29 hR30 e31 g32 f33 => ?_)
        show ml _ _ _ (21, [(0, .ref m0), (1, .ref (g.2.1 lk)), (2, .int i2_2)], [], M28) _
        refine ml_st (S' := (24, [(2, .int (i2_2 + 1)), (0, .ref m0), (1, .ref (g.2.1 lk))], [], M28)) rfl rfl rfl ?_
        refine ml_st (S' := (2, [(0, .ref m0), (1, .ref (g.2.1 lk)), (2, .int (i2_2 + 1))], [], M28)) rfl rfl rfl ?_
        exact ih_2 (i2_2 + 1) _ _ _ (loop_inc (Int32.not_le.mp c_7) hn_2) hR30 (eqI.rf.tr hI_2 (by decide)) ((eqR.rf.tr hV_2 (by decide)).put f33 (by decide)) (⟨by have := hi_2.1; omega, by omega, hi_2.2.2.put hi_2.1 e31 (ch16_vn _) g32 hn1⟩)
  exact L_2 _ 0 _ _ _ (Nat.le_refl _) hR eqI.rf eqR.rf (⟨by decide, by show (0 : Int) ≤ _; omega, fun j hj => absurd hj (Nat.not_lt_zero j)⟩)
set_option maxHeartbeats 2000000 in
theorem rm_clear {g : xe_G} {m0 : Nat} {q : Nat → Nat} {z : Nat × Nat} {I : rI} {R : rR} {M : mi_H}  (hR : RS g m0 q z I R M) {d : Nat} (hd : 3 ≤ d) : mt (mT g) d 195 [.ref m0] M (fun v M' => v = none ∧ ∃ (I' : rI) (R' : rR), RS g m0 q z I' R' M' ∧ eqI [3, 8, 9, 10, 11, 20, 25, 26] I I' ∧ eqR [1, 2, 4, 5, 6, 7] R R' ∧ ∃ S cN : Nat, SYM S cN I' R' ∧ S ≤ 3 ∧ cN ≤ 30 ∧ (∃ a, I' 9 = some a) ∧ (∃ a, I' 10 = some a) ∧ (∃ a, I' 11 = some a) ∧ I' 20 = some 0 ∧ I' 25 = some 0 ∧ I' 26 = some 0) := by
  obtain ⟨d, rfl⟩ : ∃ e, d = e + 1 := ⟨d - 1, by omega⟩
  refine mt_in (b := mb_195 g) rfl rfl ?_
  show ml (mT g) d (mb_195 g).2 (0, [(0, .ref m0)], [], M) _
  refine ml_blk 2 (S' := (2, [(0, .ref m0)], [.int 0, .ref m0], M)) rfl ?_
  refine rp_int rfl hR rfl (fun M11 I12 hR13 e14 f15 => ?_)
  show ml _ _ _ (5, [(0, .ref m0)], [], M11) _
  refine ml_blk 2 (S' := (7, [(0, .ref m0)], [.int 0, .ref m0], M11)) rfl ?_
  refine rp_int rfl hR13 rfl (fun M16 I17 hR18 e19 f20 => ?_)
  show ml _ _ _ (10, [(0, .ref m0)], [], M16) _
  refine ml_st (S' := (11, [(0, .ref m0)], [.int 0], M16)) rfl rfl rfl ?_
  refine ml_st (S' := (12, [(0, .ref m0), (1, .int 0)], [], M16)) rfl rfl rfl ?_
  have L_12 : ∀ (n_12 : Nat) (i12_1 : Int32) (M_12 : mi_H) (I_12 : rI) (R_12 : rR), (2147483648 - i12_1.toInt).toNat ≤ n_12 → RS g m0 q z I_12 R_12 M_12 → eqI [] I17 I_12 → eqR [7] R R_12 → (0 ≤ i12_1.toInt ∧ i12_1.toInt ≤ 4096 ∧ ∀ j, j < i12_1.toInt.toNat → R_12 7 j = some (-1)) → ml (mT g) d (mb_195 g).2 (12, [(0, .ref m0), (1, .int i12_1)], [], M_12) (fun v M' => v = none ∧ ∃ (I' : rI) (R' : rR), RS g m0 q z I' R' M' ∧ eqI [3, 8, 9, 10, 11, 20, 25, 26] I I' ∧ eqR [1, 2, 4, 5, 6, 7] R R' ∧ ∃ S cN : Nat, SYM S cN I' R' ∧ S ≤ 3 ∧ cN ≤ 30 ∧ (∃ a, I' 9 = some a) ∧ (∃ a, I' 10 = some a) ∧ (∃ a, I' 11 = some a) ∧ I' 20 = some 0 ∧ I' 25 = some 0 ∧ I' 26 = some 0) := by
    intro n_12
    induction n_12 with
    | zero => intro i12_1 M_12 I_12 R_12 hn; exact (loop_zero hn).elim
    | succ n_12 ih_12 =>
      intro i12_1 M_12 I_12 R_12 hn_12 hR_12 hI_12 hV_12 hi_12
      obtain ⟨hk0, hk1, hkh⟩ := hi_12
      refine ml_blk 2 (S' := (16, [(0, .ref m0), (1, .int i12_1)], [.int 4096, .int i12_1], M_12)) rfl ?_
      refine ml_if2 (S1 := (32, [(0, .ref m0), (1, .int i12_1)], [], M_12)) (S2 := (19, [(0, .ref m0), (1, .int i12_1)], [], M_12)) rfl rfl rfl (fun c_16 => ?_) (fun c_16 => ?_)
      · have c_16 : 4096 ≤ i12_1 := of_decide_eq_true c_16
        have hlen25 : (xe_lt 25).2.2.2.length = 6 := rfl
        have hlen26 : (xe_lt 26).2.2.2.length = 8 := rfl
        have hlen27 : (xe_lt 27).2.2.2.length = 16 := rfl
        have h4096 : (4096 : Int32).toInt = 4096 := rfl
        have hge := i_le c_16
        have hZ0 : SYM 0 0 I_12 R_12 := ⟨fun _ => 0, fun _ => 0, fun _ => 0, fun _ => -1, fun _ => 0, ⟨(hI_12 8 (by decide)).trans (e19), (hI_12 3 (by decide)).trans ((f20 3 (by decide)).trans (e14)), by omega, by omega, fun s hs => absurd hs (Nat.not_lt_zero s), fun i hi => absurd hi (Nat.not_lt_zero i)⟩, fun h hh => ⟨hkh h (by omega), by show (-1 : Int) ≤ (-1 : Int32).toInt; decide, by show (-1 : Int32).toInt < ((0 : Nat) : Int); decide⟩, fun s hs => absurd hs (Nat.not_lt_zero s)⟩
        refine ml_blk 3 (S' := (36, [(0, .ref m0), (1, .int i12_1)], [.ref (g.2.1 25), .ref m0, .ref m0], M_12)) rfl ?_
        refine ml_call (a := [.ref m0, .ref (g.2.1 25)]) (rest := [.ref m0]) rfl (hR_12.okc rfl rfl rfl) rfl rfl (rm_symbolS hR_12 hZ0 (by decide) (by have h9 : (xe_lt 25).2.2.2.length = 6 := rfl; omega) (by omega) (by omega)) (fun v21 M22 h23 => ?_)
        obtain ⟨u29, I24, R25, rfl, hR26, hI27, hV28, w30⟩ := h23
        show ml _ _ _ (39, [(0, .ref m0), (1, .int i12_1)], [.int u29, .ref m0], M22) _
        obtain ⟨S1, c1, hz1, hx0_1, hx1_1, hs0_1, hs1_1, hc0_1, hc1_1⟩ := w30
        refine rp_int rfl hR26 rfl (fun M31 I32 hR33 e34 f35 => ?_)
        show ml _ _ _ (42, [(0, .ref m0), (1, .int i12_1)], [], M31) _
        refine ml_blk 3 (S' := (46, [(0, .ref m0), (1, .int i12_1)], [.ref (g.2.1 26), .ref m0, .ref m0], M31)) rfl ?_
        have hZ36 : SYM S1 c1 I32 R25 := (hz1.mono (pIx f35 (by decide)) (fun _ _ => rfl))
        refine ml_call (a := [.ref m0, .ref (g.2.1 26)]) (rest := [.ref m0]) rfl (hR33.okc rfl rfl rfl) rfl rfl (rm_symbolS hR33 hZ36 (by decide) (by have h9 : (xe_lt 26).2.2.2.length = 8 := rfl; omega) (by omega) (by omega)) (fun v37 M38 h39 => ?_)
        obtain ⟨u45, I40, R41, rfl, hR42, hI43, hV44, w46⟩ := h39
        show ml _ _ _ (49, [(0, .ref m0), (1, .int i12_1)], [.int u45, .ref m0], M38) _
        obtain ⟨S2, c2, hz2, hx0_2, hx1_2, hs0_2, hs1_2, hc0_2, hc1_2⟩ := w46
        refine rp_int rfl hR42 rfl (fun M47 I48 hR49 e50 f51 => ?_)
        show ml _ _ _ (52, [(0, .ref m0), (1, .int i12_1)], [], M47) _
        refine ml_blk 3 (S' := (56, [(0, .ref m0), (1, .int i12_1)], [.ref (g.2.1 27), .ref m0, .ref m0], M47)) rfl ?_
        have hZ52 : SYM S2 c2 I48 R41 := (hz2.mono (pIx f51 (by decide)) (fun _ _ => rfl))
        refine ml_call (a := [.ref m0, .ref (g.2.1 27)]) (rest := [.ref m0]) rfl (hR49.okc rfl rfl rfl) rfl rfl (rm_symbolS hR49 hZ52 (by decide) (by have h9 : (xe_lt 27).2.2.2.length = 16 := rfl; omega) (by omega) (by omega)) (fun v53 M54 h55 => ?_)
        obtain ⟨u61, I56, R57, rfl, hR58, hI59, hV60, w62⟩ := h55
        show ml _ _ _ (59, [(0, .ref m0), (1, .int i12_1)], [.int u61, .ref m0], M54) _
        obtain ⟨S3, c3, hz3, hx0_3, hx1_3, hs0_3, hs1_3, hc0_3, hc1_3⟩ := w62
        refine rp_int rfl hR58 rfl (fun M63 I64 hR65 e66 f67 => ?_)
        show ml _ _ _ (62, [(0, .ref m0), (1, .int i12_1)], [], M63) _
        refine ml_blk 2 (S' := (64, [(0, .ref m0), (1, .int i12_1)], [.int 0, .ref m0], M63)) rfl ?_
        refine rp_int rfl hR65 rfl (fun M68 I69 hR70 e71 f72 => ?_)
        show ml _ _ _ (67, [(0, .ref m0), (1, .int i12_1)], [], M68) _
        refine ml_blk 2 (S' := (69, [(0, .ref m0), (1, .int i12_1)], [.int 0, .ref m0], M68)) rfl ?_
        refine rp_int rfl hR70 rfl (fun M73 I74 hR75 e76 f77 => ?_)
        show ml _ _ _ (72, [(0, .ref m0), (1, .int i12_1)], [], M73) _
        refine ml_blk 2 (S' := (74, [(0, .ref m0), (1, .int i12_1)], [.int 0, .ref m0], M73)) rfl ?_
        refine rp_int rfl hR75 rfl (fun M78 I79 hR80 e81 f82 => ?_)
        show ml _ _ _ (77, [(0, .ref m0), (1, .int i12_1)], [], M78) _
        have hZ83 : SYM S3 c3 I79 R57 := ((((hz3.mono (pIx f67 (by decide)) (fun _ _ => rfl)).mono (pIx f72 (by decide)) (fun _ _ => rfl)).mono (pIx f77 (by decide)) (fun _ _ => rfl)).mono (pIx f82 (by decide)) (fun _ _ => rfl))
        exact ml_ret rfl (rfl) (⟨rfl, _, _, hR80, ((((((((((((eqI.rf.put f15 (by decide)).put f20 (by decide)).tr hI_12 (by decide)).tr hI27 (by decide)).put f35 (by decide)).tr hI43 (by decide)).put f51 (by decide)).tr hI59 (by decide)).put f67 (by decide)).put f72 (by decide)).put f77 (by decide)).put f82 (by decide)), ((((eqR.rf.tr hV_12 (by decide)).tr hV28 (by decide)).tr hV44 (by decide)).tr hV60 (by decide)), ⟨_, _, hZ83, by omega, by have h1 : (xe_lt 25).2.2.2.length = 6 := rfl; have h2 : (xe_lt 26).2.2.2.length = 8 := rfl; have h3 : (xe_lt 27).2.2.2.length = 16 := rfl; omega, ⟨_, (f82 9 (by decide)).trans ((f77 9 (by decide)).trans ((f72 9 (by decide)).trans ((f67 9 (by decide)).trans ((hI59 9 (by decide)).trans ((f51 9 (by decide)).trans ((hI43 9 (by decide)).trans (e34)))))))⟩, ⟨_, (f82 10 (by decide)).trans ((f77 10 (by decide)).trans ((f72 10 (by decide)).trans ((f67 10 (by decide)).trans ((hI59 10 (by decide)).trans (e50)))))⟩, ⟨_, (f82 11 (by decide)).trans ((f77 11 (by decide)).trans ((f72 11 (by decide)).trans (e66)))⟩, (f82 20 (by decide)).trans ((f77 20 (by decide)).trans (e71)), (f82 25 (by decide)).trans (e76), e81⟩⟩)
      · have c_16 : ¬ (4096 ≤ i12_1) := of_decide_eq_false c_16
        refine ml_st (S' := (20, [(0, .ref m0), (1, .int i12_1)], [.ref m0], M_12)) rfl rfl rfl ?_
        refine rg_ref (S' := (23, [(0, .ref m0), (1, .int i12_1)], [.ref (q 7)], M_12)) rfl hR_12 rfl rfl ?_
        refine ml_blk 2 (S' := (25, [(0, .ref m0), (1, .int i12_1)], [.int (-1), .int i12_1, .ref (q 7)], M_12)) rfl ?_
        have hlt : i12_1.toInt < 4096 := i_nle c_16
        have hn1 : (i12_1 + 1).toInt = i12_1.toInt + 1 := inc_lt (Int32.not_le.mp c_16)
        refine ra_st (k := 7) rfl hR_12 rfl (vin_lt hk0 (by omega)) (fun M84 R85 hR86 e87 g88 f89 => ?_)
        show ml _ _ _ (26, [(0, .ref m0), (1, .int i12_1)], [], M84) _
        refine ml_st (S' := (29, [(1, .int (i12_1 + 1)), (0, .ref m0)], [], M84)) rfl rfl rfl ?_
        refine ml_st (S' := (12, [(0, .ref m0), (1, .int (i12_1 + 1))], [], M84)) rfl rfl rfl ?_
        exact ih_12 (i12_1 + 1) _ _ _ (loop_inc (Int32.not_le.mp c_16) hn_12) hR86 (eqI.rf.tr hI_12 (by decide)) ((eqR.rf.tr hV_12 (by decide)).put f89 (by decide)) (⟨by omega, by omega, fun j hj => by by_cases e9 : j = i12_1.toInt.toNat; (subst e9; exact e87); (rw [g88 _ e9]; exact hkh j (by omega))⟩)
  exact L_12 _ 0 _ _ _ (Nat.le_refl _) hR18 eqI.rf eqR.rf (⟨by decide, by decide, fun j hj => absurd hj (Nat.not_lt_zero j)⟩)
