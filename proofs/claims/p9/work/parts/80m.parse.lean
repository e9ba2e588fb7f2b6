/-! the reference: parse (laid by wip/p2/c80.py) -/
set_option maxHeartbeats 2000000 in
theorem rm_parse13 {g : xe_G}  {m0 : Nat} {q : Nat → Nat} {z : Nat × Nat} {I : rI} {R : rR} {M : mi_H} {n : Nat} {f : Nat → Int32} {kr : rR} {Ic : rI} {Rc : rR} {x0 : Int32}  (hR : RS g m0 q z I R M) (hk49 : I 49 = some 0) (hK : KW I R) (hn : n ≤ 65540) (hcan : CAN g m0 q kr Ic Rc) (h63 : R 63 = kr 63) (h64 : R 64 = kr 64) (hx : CANX g m0 q Ic Rc f n x0) (hfr : ∀ i, i < n → ∃ b, R 13 i = some b ∧ vp_nar .byte b = f i) {d : Nat} (hd : 10 ≤ d) : mt (mT g) d 230 [.ref m0, .ref (q 13), .int (nI n)] M (fun v M' => ∃ (x : Int32) (I' : rI) (R' : rR), v = some (.int x) ∧ RS g m0 q z I' R' M' ∧ eqI [3, 8, 9, 10, 11, 16, 20, 25, 26, 47, 48, 50, 51, 52, 53, 54, 55, 56, 57, 58, 59, 60, 61, 65, 66, 67, 68, 69, 70, 71, 72] I I' ∧ eqR [1, 2, 4, 5, 6, 7, 12, 21, 22, 27, 28, 29, 30, 31, 32, 33, 34, 35, 36, 37, 38, 39, 40, 41, 42, 43, 44, 45, 46] R R' ∧ (x = 0 ∨ x = 1) ∧ (x = x0 ∧ (x = 0 ∨ GD n f I' R') ∧ ∃ a, I' 9 = some a)) := by
  obtain ⟨d, rfl⟩ : ∃ e, d = e + 1 := ⟨d - 1, by omega⟩
  refine mt_in (b := mb_230 g) rfl rfl ?_
  show ml (mT g) d (mb_230 g).2 (0, [(0, .ref m0), (1, .ref (q 13)), (2, .int (nI n))], [], M) _
  refine ml_st (S' := (1, [(0, .ref m0), (1, .ref (q 13)), (2, .int (nI n))], [.ref m0], M)) rfl rfl rfl ?_
  refine ml_call (a := [.ref m0]) (rest := []) rfl (hR.okc rfl rfl rfl) rfl rfl (rm_clearC hR (hcan) (hk49) (h63) (h64) (by omega)) (fun v11 M12 h13 => ?_)
  obtain ⟨rfl, I14, R15, hR16, hI17, hV18, w20⟩ := h13
  show ml _ _ _ (4, [(0, .ref m0), (1, .ref (q 13)), (2, .int (nI n))], [], M12) _
  obtain ⟨⟨S, cN, hZ9, hS3, hC3, ⟨a9, kz9⟩, ⟨a10, kz10⟩, ⟨a11, kz11⟩, kz20, kz25, kz26⟩, hli, hlr⟩ := w20
  refine ml_blk 2 (S' := (6, [(0, .ref m0), (1, .ref (q 13)), (2, .int (nI n))], [.int (nI n), .ref m0], M12)) rfl ?_
  refine rp_int rfl hR16 rfl (fun M21 I22 hR23 e24 f25 => ?_)
  show ml _ _ _ (9, [(0, .ref m0), (1, .ref (q 13)), (2, .int (nI n))], [], M21) _
  refine ml_st (S' := (10, [(0, .ref m0), (1, .ref (q 13)), (2, .int (nI n))], [.int 0], M21)) rfl rfl rfl ?_
  refine ml_st (S' := (11, [(0, .ref m0), (1, .ref (q 13)), (2, .int (nI n)), (3, .int 0)], [], M21)) rfl rfl rfl ?_
  have L_11 : ∀ (n_11 : Nat) (i11_3 : Int32) (M_11 : mi_H) (I_11 : rI) (R_11 : rR), (2147483648 - i11_3.toInt).toNat ≤ n_11 → RS g m0 q z I_11 R_11 M_11 → eqI [] I22 I_11 → eqR [12] R15 R_11 → (0 ≤ i11_3.toInt ∧ i11_3.toInt ≤ n ∧ ∀ i, i < i11_3.toInt.toNat → R_11 12 i = some (f i)) → ml (mT g) d (mb_230 g).2 (11, [(0, .ref m0), (1, .ref (q 13)), (2, .int (nI n)), (3, .int i11_3)], [], M_11) (fun v M' => ∃ (x : Int32) (I' : rI) (R' : rR), v = some (.int x) ∧ RS g m0 q z I' R' M' ∧ eqI [3, 8, 9, 10, 11, 16, 20, 25, 26, 47, 48, 50, 51, 52, 53, 54, 55, 56, 57, 58, 59, 60, 61, 65, 66, 67, 68, 69, 70, 71, 72] I I' ∧ eqR [1, 2, 4, 5, 6, 7, 12, 21, 22, 27, 28, 29, 30, 31, 32, 33, 34, 35, 36, 37, 38, 39, 40, 41, 42, 43, 44, 45, 46] R R' ∧ (x = 0 ∨ x = 1) ∧ (x = x0 ∧ (x = 0 ∨ GD n f I' R') ∧ ∃ a, I' 9 = some a)) := by
    intro n_11
    induction n_11 with
    | zero => intro i11_3 M_11 I_11 R_11 hn; exact (loop_zero hn).elim
    | succ n_11 ih_11 =>
      intro i11_3 M_11 I_11 R_11 hn_11 hR_11 hI_11 hV_11 hi_11
      obtain ⟨hk0, hk1, hfl⟩ := hi_11
      refine ml_blk 2 (S' := (13, [(0, .ref m0), (1, .ref (q 13)), (2, .int (nI n)), (3, .int i11_3)], [.int (nI n), .int i11_3], M_11)) rfl ?_
      refine ml_if2 (S1 := (31, [(0, .ref m0), (1, .ref (q 13)), (2, .int (nI n)), (3, .int i11_3)], [], M_11)) (S2 := (16, [(0, .ref m0), (1, .ref (q 13)), (2, .int (nI n)), (3, .int i11_3)], [], M_11)) rfl rfl rfl (fun c_13 => ?_) (fun c_13 => ?_)
      · have c_13 : (nI n) ≤ i11_3 := of_decide_eq_true c_13
        have hall : ∀ i, i < n → R_11 12 i = some (f i) := fun i hi => hfl i (by have q := i_le c_13; rw [nI_val (by omega)] at q; omega)
        have hF9 : FK n f I_11 R_11 := ⟨hn, (hI_11 49 (by decide)).trans ((f25 49 (by decide)).trans ((hI17 49 (by decide)).trans (hk49))), (hI_11 16 (by decide)).trans (e24), hall⟩
        refine ml_st (S' := (32, [(0, .ref m0), (1, .ref (q 13)), (2, .int (nI n)), (3, .int i11_3)], [.ref m0], M_11)) rfl rfl rfl ?_
        have hZ26 : SYM S cN I_11 R_11 := ((hZ9.mono (pIx f25 (by decide)) (fun _ _ => rfl)).mono (cIx hI_11 (by decide)) (cRx hV_11 (by decide)))
        have hK27 : KW I_11 R_11 := (((hK.mono (cIx hI17 (by decide)) (cRx hV18 (by decide))).mono (pIx f25 (by decide)) (fun _ _ => rfl)).mono (cIx hI_11 (by decide)) (cRx hV_11 (by decide)))
        refine ml_call (a := [.ref m0]) (rest := []) rfl (hR_11.okc rfl rfl rfl) rfl rfl (rm_checkFileC hR_11 ((hI_11 20 (by decide)).trans ((f25 20 (by decide)).trans (kz20))) ((hI_11 25 (by decide)).trans ((f25 25 (by decide)).trans (kz25))) ((hI_11 26 (by decide)).trans ((f25 26 (by decide)).trans (kz26))) ((hI_11 9 (by decide)).trans ((f25 9 (by decide)).trans (kz9))) ((hI_11 10 (by decide)).trans ((f25 10 (by decide)).trans (kz10))) ((hI_11 11 (by decide)).trans ((f25 11 (by decide)).trans (kz11))) hF9 hZ26 hK27 (hS3) (hC3) (hx) (le_fn hli ((hI_11 16 (by decide)).trans (e24)) (fun k hk => (hI_11 k (by simp)).trans (f25 k hk))) (le_rfn hlr hall (fun k hk => hV_11 k (by simpa using hk))) (by omega)) (fun v28 M29 h30 => ?_)
        obtain ⟨u36, I31, R32, rfl, hR33, hI34, hV35, z37, w38⟩ := h30
        show ml _ _ _ (35, [(0, .ref m0), (1, .ref (q 13)), (2, .int (nI n)), (3, .int i11_3)], [.int u36], M29) _
        exact ml_ret rfl (r_z (z37)) (⟨_, _, _, rfl, hR33, ((((eqI.rf.tr hI17 (by decide)).put f25 (by decide)).tr hI_11 (by decide)).tr hI34 (by decide)), (((eqR.rf.tr hV18 (by decide)).tr hV_11 (by decide)).tr hV35 (by decide)), z37, ⟨w38.1, w38.2, _, (hI34 9 (by decide)).trans ((hI_11 9 (by decide)).trans ((f25 9 (by decide)).trans (kz9)))⟩⟩)
      · have c_13 : ¬ ((nI n) ≤ i11_3) := of_decide_eq_false c_13
        have hkl : i11_3.toInt < n := by have q := i_nle c_13; rw [nI_val (by omega)] at q; exact q
        obtain ⟨b9, hb9, hnb⟩ := hfr i11_3.toNatClampNeg (by show i11_3.toInt.toNat < n; omega)
        refine ml_st (S' := (17, [(0, .ref m0), (1, .ref (q 13)), (2, .int (nI n)), (3, .int i11_3)], [.ref m0], M_11)) rfl rfl rfl ?_
        refine rg_ref (S' := (20, [(0, .ref m0), (1, .ref (q 13)), (2, .int (nI n)), (3, .int i11_3)], [.ref (q 12)], M_11)) rfl hR_11 rfl rfl ?_
        refine ml_blk 3 (S' := (23, [(0, .ref m0), (1, .ref (q 13)), (2, .int (nI n)), (3, .int i11_3)], [.int i11_3, .ref (q 13), .int i11_3, .ref (q 12)], M_11)) rfl ?_
        refine ra_ld (k := 13) (S' := (24, [(0, .ref m0), (1, .ref (q 13)), (2, .int (nI n)), (3, .int i11_3)], [.int b9, .int i11_3, .ref (q 12)], M_11)) rfl hR_11 rfl (vin_lt hk0 (by omega)) ((congrFun ((hV_11 13 (by decide)).trans (hV18 13 (by decide))) _).trans hb9) rfl ?_
        refine ra_st (k := 12) rfl hR_11 rfl (vin_lt hk0 (by omega)) (fun M39 R40 hR41 e42 g43 f44 => ?_)
        show ml _ _ _ (25, [(0, .ref m0), (1, .ref (q 13)), (2, .int (nI n)), (3, .int i11_3)], [], M39) _
        refine ml_st (S' := (28, [(3, .int (i11_3 + 1)), (0, .ref m0), (1, .ref (q 13)), (2, .int (nI n))], [], M39)) rfl rfl rfl ?_
        refine ml_st (S' := (11, [(0, .ref m0), (1, .ref (q 13)), (2, .int (nI n)), (3, .int (i11_3 + 1))], [], M39)) rfl rfl rfl ?_
        exact ih_11 (i11_3 + 1) _ _ _ (loop_inc (Int32.not_le.mp c_13) hn_11) hR41 (eqI.rf.tr hI_11 (by decide)) ((eqR.rf.tr hV_11 (by decide)).put f44 (by decide)) (⟨by rw [inc_lt (Int32.not_le.mp c_13)]; omega, by rw [inc_lt (Int32.not_le.mp c_13)]; omega, by rw [show (i11_3 + 1).toInt.toNat = i11_3.toInt.toNat + 1 by rw [inc_lt (Int32.not_le.mp c_13)]; omega]; exact fill hfl e42 hnb g43⟩)
  exact L_11 _ 0 _ _ _ (Nat.le_refl _) hR23 eqI.rf eqR.rf (⟨by decide, by have : (0 : Int32).toInt = 0 := rfl; omega, fun i hi => absurd hi (Nat.not_lt_zero i)⟩)
set_option maxHeartbeats 2000000 in
theorem rm_parse14 {g : xe_G}  {m0 : Nat} {q : Nat → Nat} {z : Nat × Nat} {I : rI} {R : rR} {M : mi_H} {n : Nat} {f : Nat → Int32} {kr : rR} {Ic : rI} {Rc : rR} {x0 : Int32}  (hR : RS g m0 q z I R M) (hk49 : I 49 = some 0) (hK : KW I R) (hn : n ≤ 65540) (hcan : CAN g m0 q kr Ic Rc) (h63 : R 63 = kr 63) (h64 : R 64 = kr 64) (hx : CANX g m0 q Ic Rc f n x0) (hfr : ∀ i, i < n → ∃ b, R 14 i = some b ∧ vp_nar .byte b = f i) {d : Nat} (hd : 10 ≤ d) : mt (mT g) d 230 [.ref m0, .ref (q 14), .int (nI n)] M (fun v M' => ∃ (x : Int32) (I' : rI) (R' : rR), v = some (.int x) ∧ RS g m0 q z I' R' M' ∧ eqI [3, 8, 9, 10, 11, 16, 20, 25, 26, 47, 48, 50, 51, 52, 53, 54, 55, 56, 57, 58, 59, 60, 61, 65, 66, 67, 68, 69, 70, 71, 72] I I' ∧ eqR [1, 2, 4, 5, 6, 7, 12, 21, 22, 27, 28, 29, 30, 31, 32, 33, 34, 35, 36, 37, 38, 39, 40, 41, 42, 43, 44, 45, 46] R R' ∧ (x = 0 ∨ x = 1) ∧ (x = x0 ∧ (x = 0 ∨ GD n f I' R') ∧ ∃ a, I' 9 = some a)) := by
  obtain ⟨d, rfl⟩ : ∃ e, d = e + 1 := ⟨d - 1, by omega⟩
  refine mt_in (b := mb_230 g) rfl rfl ?_
  show ml (mT g) d (mb_230 g).2 (0, [(0, .ref m0), (1, .ref (q 14)), (2, .int (nI n))], [], M) _
  refine ml_st (S' := (1, [(0, .ref m0), (1, .ref (q 14)), (2, .int (nI n))], [.ref m0], M)) rfl rfl rfl ?_
  refine ml_call (a := [.ref m0]) (rest := []) rfl (hR.okc rfl rfl rfl) rfl rfl (rm_clearC hR (hcan) (hk49) (h63) (h64) (by omega)) (fun v11 M12 h13 => ?_)
  obtain ⟨rfl, I14, R15, hR16, hI17, hV18, w20⟩ := h13
  show ml _ _ _ (4, [(0, .ref m0), (1, .ref (q 14)), (2, .int (nI n))], [], M12) _
  obtain ⟨⟨S, cN, hZ9, hS3, hC3, ⟨a9, kz9⟩, ⟨a10, kz10⟩, ⟨a11, kz11⟩, kz20, kz25, kz26⟩, hli, hlr⟩ := w20
  refine ml_blk 2 (S' := (6, [(0, .ref m0), (1, .ref (q 14)), (2, .int (nI n))], [.int (nI n), .ref m0], M12)) rfl ?_
  refine rp_int rfl hR16 rfl (fun M21 I22 hR23 e24 f25 => ?_)
  show ml _ _ _ (9, [(0, .ref m0), (1, .ref (q 14)), (2, .int (nI n))], [], M21) _
  refine ml_st (S' := (10, [(0, .ref m0), (1, .ref (q 14)), (2, .int (nI n))], [.int 0], M21)) rfl rfl rfl ?_
  refine ml_st (S' := (11, [(0, .ref m0), (1, .ref (q 14)), (2, .int (nI n)), (3, .int 0)], [], M21)) rfl rfl rfl ?_
  have L_11 : ∀ (n_11 : Nat) (i11_3 : Int32) (M_11 : mi_H) (I_11 : rI) (R_11 : rR), (2147483648 - i11_3.toInt).toNat ≤ n_11 → RS g m0 q z I_11 R_11 M_11 → eqI [] I22 I_11 → eqR [12] R15 R_11 → (0 ≤ i11_3.toInt ∧ i11_3.toInt ≤ n ∧ ∀ i, i < i11_3.toInt.toNat → R_11 12 i = some (f i)) → ml (mT g) d (mb_230 g).2 (11, [(0, .ref m0), (1, .ref (q 14)), (2, .int (nI n)), (3, .int i11_3)], [], M_11) (fun v M' => ∃ (x : Int32) (I' : rI) (R' : rR), v = some (.int x) ∧ RS g m0 q z I' R' M' ∧ eqI [3, 8, 9, 10, 11, 16, 20, 25, 26, 47, 48, 50, 51, 52, 53, 54, 55, 56, 57, 58, 59, 60, 61, 65, 66, 67, 68, 69, 70, 71, 72] I I' ∧ eqR [1, 2, 4, 5, 6, 7, 12, 21, 22, 27, 28, 29, 30, 31, 32, 33, 34, 35, 36, 37, 38, 39, 40, 41, 42, 43, 44, 45, 46] R R' ∧ (x = 0 ∨ x = 1) ∧ (x = x0 ∧ (x = 0 ∨ GD n f I' R') ∧ ∃ a, I' 9 = some a)) := by
    intro n_11
    induction n_11 with
    | zero => intro i11_3 M_11 I_11 R_11 hn; exact (loop_zero hn).elim
    | succ n_11 ih_11 =>
      intro i11_3 M_11 I_11 R_11 hn_11 hR_11 hI_11 hV_11 hi_11
      obtain ⟨hk0, hk1, hfl⟩ := hi_11
      refine ml_blk 2 (S' := (13, [(0, .ref m0), (1, .ref (q 14)), (2, .int (nI n)), (3, .int i11_3)], [.int (nI n), .int i11_3], M_11)) rfl ?_
      refine ml_if2 (S1 := (31, [(0, .ref m0), (1, .ref (q 14)), (2, .int (nI n)), (3, .int i11_3)], [], M_11)) (S2 := (16, [(0, .ref m0), (1, .ref (q 14)), (2, .int (nI n)), (3, .int i11_3)], [], M_11)) rfl rfl rfl (fun c_13 => ?_) (fun c_13 => ?_)
      · have c_13 : (nI n) ≤ i11_3 := of_decide_eq_true c_13
        have hall : ∀ i, i < n → R_11 12 i = some (f i) := fun i hi => hfl i (by have q := i_le c_13; rw [nI_val (by omega)] at q; omega)
        have hF9 : FK n f I_11 R_11 := ⟨hn, (hI_11 49 (by decide)).trans ((f25 49 (by decide)).trans ((hI17 49 (by decide)).trans (hk49))), (hI_11 16 (by decide)).trans (e24), hall⟩
        refine ml_st (S' := (32, [(0, .ref m0), (1, .ref (q 14)), (2, .int (nI n)), (3, .int i11_3)], [.ref m0], M_11)) rfl rfl rfl ?_
        have hZ26 : SYM S cN I_11 R_11 := ((hZ9.mono (pIx f25 (by decide)) (fun _ _ => rfl)).mono (cIx hI_11 (by decide)) (cRx hV_11 (by decide)))
        have hK27 : KW I_11 R_11 := (((hK.mono (cIx hI17 (by decide)) (cRx hV18 (by decide))).mono (pIx f25 (by decide)) (fun _ _ => rfl)).mono (cIx hI_11 (by decide)) (cRx hV_11 (by decide)))
        refine ml_call (a := [.ref m0]) (rest := []) rfl (hR_11.okc rfl rfl rfl) rfl rfl (rm_checkFileC hR_11 ((hI_11 20 (by decide)).trans ((f25 20 (by decide)).trans (kz20))) ((hI_11 25 (by decide)).trans ((f25 25 (by decide)).trans (kz25))) ((hI_11 26 (by decide)).trans ((f25 26 (by decide)).trans (kz26))) ((hI_11 9 (by decide)).trans ((f25 9 (by decide)).trans (kz9))) ((hI_11 10 (by decide)).trans ((f25 10 (by decide)).trans (kz10))) ((hI_11 11 (by decide)).trans ((f25 11 (by decide)).trans (kz11))) hF9 hZ26 hK27 (hS3) (hC3) (hx) (le_fn hli ((hI_11 16 (by decide)).trans (e24)) (fun k hk => (hI_11 k (by simp)).trans (f25 k hk))) (le_rfn hlr hall (fun k hk => hV_11 k (by simpa using hk))) (by omega)) (fun v28 M29 h30 => ?_)
        obtain ⟨u36, I31, R32, rfl, hR33, hI34, hV35, z37, w38⟩ := h30
        show ml _ _ _ (35, [(0, .ref m0), (1, .ref (q 14)), (2, .int (nI n)), (3, .int i11_3)], [.int u36], M29) _
        exact ml_ret rfl (r_z (z37)) (⟨_, _, _, rfl, hR33, ((((eqI.rf.tr hI17 (by decide)).put f25 (by decide)).tr hI_11 (by decide)).tr hI34 (by decide)), (((eqR.rf.tr hV18 (by decide)).tr hV_11 (by decide)).tr hV35 (by decide)), z37, ⟨w38.1, w38.2, _, (hI34 9 (by decide)).trans ((hI_11 9 (by decide)).trans ((f25 9 (by decide)).trans (kz9)))⟩⟩)
      · have c_13 : ¬ ((nI n) ≤ i11_3) := of_decide_eq_false c_13
        have hkl : i11_3.toInt < n := by have q := i_nle c_13; rw [nI_val (by omega)] at q; exact q
        obtain ⟨b9, hb9, hnb⟩ := hfr i11_3.toNatClampNeg (by show i11_3.toInt.toNat < n; omega)
        refine ml_st (S' := (17, [(0, .ref m0), (1, .ref (q 14)), (2, .int (nI n)), (3, .int i11_3)], [.ref m0], M_11)) rfl rfl rfl ?_
        refine rg_ref (S' := (20, [(0, .ref m0), (1, .ref (q 14)), (2, .int (nI n)), (3, .int i11_3)], [.ref (q 12)], M_11)) rfl hR_11 rfl rfl ?_
        refine ml_blk 3 (S' := (23, [(0, .ref m0), (1, .ref (q 14)), (2, .int (nI n)), (3, .int i11_3)], [.int i11_3, .ref (q 14), .int i11_3, .ref (q 12)], M_11)) rfl ?_
        refine ra_ld (k := 14) (S' := (24, [(0, .ref m0), (1, .ref (q 14)), (2, .int (nI n)), (3, .int i11_3)], [.int b9, .int i11_3, .ref (q 12)], M_11)) rfl hR_11 rfl (vin_lt hk0 (by omega)) ((congrFun ((hV_11 14 (by decide)).trans (hV18 14 (by decide))) _).trans hb9) rfl ?_
        refine ra_st (k := 12) rfl hR_11 rfl (vin_lt hk0 (by omega)) (fun M39 R40 hR41 e42 g43 f44 => ?_)
        show ml _ _ _ (25, [(0, .ref m0), (1, .ref (q 14)), (2, .int (nI n)), (3, .int i11_3)], [], M39) _
        refine ml_st (S' := (28, [(3, .int (i11_3 + 1)), (0, .ref m0), (1, .ref (q 14)), (2, .int (nI n))], [], M39)) rfl rfl rfl ?_
        refine ml_st (S' := (11, [(0, .ref m0), (1, .ref (q 14)), (2, .int (nI n)), (3, .int (i11_3 + 1))], [], M39)) rfl rfl rfl ?_
        exact ih_11 (i11_3 + 1) _ _ _ (loop_inc (Int32.not_le.mp c_13) hn_11) hR41 (eqI.rf.tr hI_11 (by decide)) ((eqR.rf.tr hV_11 (by decide)).put f44 (by decide)) (⟨by rw [inc_lt (Int32.not_le.mp c_13)]; omega, by rw [inc_lt (Int32.not_le.mp c_13)]; omega, by rw [show (i11_3 + 1).toInt.toNat = i11_3.toInt.toNat + 1 by rw [inc_lt (Int32.not_le.mp c_13)]; omega]; exact fill hfl e42 hnb g43⟩)
  exact L_11 _ 0 _ _ _ (Nat.le_refl _) hR23 eqI.rf eqR.rf (⟨by decide, by have : (0 : Int32).toInt = 0 := rfl; omega, fun i hi => absurd hi (Nat.not_lt_zero i)⟩)
