/-! the reference: instructions (laid by wip/p2/c75.py) -/
set_option maxHeartbeats 2000000 in
theorem rm_noCode {g : xe_G}  {m0 : Nat} {q : Nat → Nat} {z : Nat × Nat} {I : rI} {R : rR} {M : mi_H} {x1 kn : Int32} {n : Nat} {f : Nat → Int32}  (hR : RS g m0 q z I R M) (hk18 : I 18 = some kn) (hG : (kn < 0 ∨ GD n f I R)) {d : Nat} (hd : 1 ≤ d) : mt (mT g) d 227 [.ref m0, .int x1] M (fun v M' => (∃ x : Int32, v = some (.int x) ∧ (x = 0 ∨ x = 1) ∧ (x = 1 ∨ ¬ kn < 0 ∧ 0 ≤ x1.toInt ∧ x1.toInt < 8192 ∧ ∃ c l t : Int32, R 37 x1.toNatClampNeg = some c ∧ R 38 x1.toNatClampNeg = some l ∧ R 40 x1.toNatClampNeg = some t ∧ 0 ≤ c.toInt ∧ 0 ≤ l.toInt ∧ c.toInt + l.toInt ≤ n)) ∧ M' = M) := by
  obtain ⟨d, rfl⟩ : ∃ e, d = e + 1 := ⟨d - 1, by omega⟩
  refine mt_in (b := mb_227 g) rfl rfl ?_
  show ml (mT g) d (mb_227 g).2 (0, [(0, .ref m0), (1, .int x1)], [], M) _
  refine ml_st (S' := (1, [(0, .ref m0), (1, .int x1)], [.ref m0], M)) rfl rfl rfl ?_
  refine rg_int (S' := (4, [(0, .ref m0), (1, .int x1)], [.int kn], M)) rfl hR rfl (hk18) rfl ?_
  refine ml_if (S1 := (28, [], [], M)) (S2 := (7, [(0, .ref m0), (1, .int x1)], [], M)) rfl rfl rfl (fun c_4 => ?_) (fun c_4 => ?_)
  · have c_4 : kn < 0 := of_decide_eq_true c_4
    refine ml_st (S' := (29, [], [.int 1], M)) rfl rfl rfl ?_
    refine ml_st (S' := (33, [], [.int 1], M)) rfl rfl rfl ?_
    exact ml_ret rfl (r_z (Or.inr rfl)) (⟨⟨_, rfl, Or.inr rfl, Or.inl rfl⟩, rfl⟩)
  · have c_4 : ¬ (kn < 0) := of_decide_eq_false c_4
    obtain ⟨S, cN, sa, sl, ch, cp, mj, pa, py, hA, fA, mA, aA, nf, ni, kf, km, hF0, hY0, hP0, hE0, hFO, kq54, kq58, kq61, hkf, kq25, hfk, hkm, kq26, hmk, hNW⟩ := hG.resolve_left (c_4)
    have hn := hF0.1
    refine ml_st (S' := (8, [(0, .ref m0), (1, .int x1)], [.int x1], M)) rfl rfl rfl ?_
    refine ml_if (S1 := (28, [], [], M)) (S2 := (11, [(0, .ref m0), (1, .int x1)], [], M)) rfl rfl rfl (fun c_8 => ?_) (fun c_8 => ?_)
    · have c_8 : x1 < 0 := of_decide_eq_true c_8
      refine ml_st (S' := (29, [], [.int 1], M)) rfl rfl rfl ?_
      refine ml_st (S' := (33, [], [.int 1], M)) rfl rfl rfl ?_
      exact ml_ret rfl (r_z (Or.inr rfl)) (⟨⟨_, rfl, Or.inr rfl, Or.inl rfl⟩, rfl⟩)
    · have c_8 : ¬ (x1 < 0) := of_decide_eq_false c_8
      refine ml_blk 2 (S' := (13, [(0, .ref m0), (1, .int x1)], [.ref m0, .int x1], M)) rfl ?_
      refine rg_int (S' := (16, [(0, .ref m0), (1, .int x1)], [.int (nI km), .int x1], M)) rfl hR rfl (kq26) rfl ?_
      refine ml_if2 (S1 := (28, [], [], M)) (S2 := (19, [(0, .ref m0), (1, .int x1)], [], M)) rfl rfl rfl (fun c_16 => ?_) (fun c_16 => ?_)
      · have c_16 : (nI km) ≤ x1 := of_decide_eq_true c_16
        refine ml_st (S' := (29, [], [.int 1], M)) rfl rfl rfl ?_
        refine ml_st (S' := (33, [], [.int 1], M)) rfl rfl rfl ?_
        exact ml_ret rfl (r_z (Or.inr rfl)) (⟨⟨_, rfl, Or.inr rfl, Or.inl rfl⟩, rfl⟩)
      · have c_16 : ¬ ((nI km) ≤ x1) := of_decide_eq_false c_16
        have hx0 : 0 ≤ x1.toInt := i_nlt c_8
        have hx1 : x1.toInt < km := i_ltn (Int32.not_le.mp c_16) hkm
        obtain ⟨-, ⟨mc, hmc, hmd⟩, -⟩ := hmk x1.toNatClampNeg (by show x1.toInt.toNat < km; omega)
        refine ml_st (S' := (20, [(0, .ref m0), (1, .int x1)], [.ref m0], M)) rfl rfl rfl ?_
        refine rg_ref (S' := (23, [(0, .ref m0), (1, .int x1)], [.ref (q 37)], M)) rfl hR rfl rfl ?_
        refine ml_st (S' := (24, [(0, .ref m0), (1, .int x1)], [.int x1, .ref (q 37)], M)) rfl rfl rfl ?_
        refine ra_ld (k := 37) (S' := (25, [(0, .ref m0), (1, .int x1)], [.int mc], M)) rfl hR rfl (vin_lt hx0 (by omega)) (hmc) rfl ?_
        refine ml_if (S1 := (32, [(0, .ref m0), (1, .int x1)], [], M)) (S2 := (28, [], [], M)) rfl rfl rfl (fun c_25 => ?_) (fun c_25 => ?_)
        · have c_25 : 0 ≤ mc := of_decide_eq_true c_25
          refine ml_st (S' := (33, [], [.int 0], M)) rfl rfl rfl ?_
          exact ml_ret rfl (r_z (Or.inl rfl)) (⟨⟨_, rfl, Or.inl rfl, Or.inr (by have q0 : 0 ≤ mc.toInt := i_le c_25; obtain ⟨ml9, mr9, mm9, ms9, mt9, hl9, hr9, hm9, hs9, ht9, hl0, hcl, -⟩ := hmd.resolve_left (by omega); exact ⟨c_4, hx0, by omega, mc, ml9, mt9, hmc, hl9, ht9, q0, hl0, hcl⟩)⟩, rfl⟩)
        · have c_25 : ¬ (0 ≤ mc) := of_decide_eq_false c_25
          refine ml_st (S' := (29, [], [.int 1], M)) rfl rfl rfl ?_
          refine ml_st (S' := (33, [], [.int 1], M)) rfl rfl rfl ?_
          exact ml_ret rfl (r_z (Or.inr rfl)) (⟨⟨_, rfl, Or.inr rfl, Or.inl rfl⟩, rfl⟩)
set_option maxHeartbeats 2000000 in
theorem rm_b1 {g : xe_G}  {m0 : Nat} {q : Nat → Nat} {z : Nat × Nat} {I : rI} {R : rR} {M : mi_H} {x1 : Int32} {n : Nat} {f : Nat → Int32} {ca cl : Int32}  (hR : RS g m0 q z I R M) (hF : FK n f I R) (hC : CK n ca cl I R) (h0 : 0 ≤ x1.toInt) (h1 : x1.toInt + 1 ≤ cl.toInt) {d : Nat} (hd : 1 ≤ d) : mt (mT g) d 179 [.ref m0, .int x1] M (fun v M' => v = some (.int (f1 f (ca + x1))) ∧ M' = M) := by
  obtain ⟨d, rfl⟩ : ∃ e, d = e + 1 := ⟨d - 1, by omega⟩
  refine mt_in (b := mb_179 g) rfl rfl ?_
  show ml (mT g) d (mb_179 g).2 (0, [(0, .ref m0), (1, .int x1)], [], M) _
  have hn := hF.1
  obtain ⟨hca, hcl, hcn⟩ := hC.2.2
  have eca : (ca + x1).toInt = ca.toInt + x1.toInt := i_add (by omega) (by omega)
  refine ml_st (S' := (1, [(0, .ref m0), (1, .int x1)], [.ref m0], M)) rfl rfl rfl ?_
  refine rg_ref (S' := (4, [(0, .ref m0), (1, .int x1)], [.ref (q 12)], M)) rfl hR rfl rfl ?_
  refine ml_st (S' := (5, [(0, .ref m0), (1, .int x1)], [.ref m0, .ref (q 12)], M)) rfl rfl rfl ?_
  refine rg_int (S' := (8, [(0, .ref m0), (1, .int x1)], [.int ca, .ref (q 12)], M)) rfl hR rfl (hC.1) rfl ?_
  refine ml_blk 2 (S' := (10, [(0, .ref m0), (1, .int x1)], [.int (ca + x1), .ref (q 12)], M)) rfl ?_
  refine ra_ld (k := 12) (S' := (11, [(0, .ref m0), (1, .int x1)], [.int (f (ca + x1).toNatClampNeg)], M)) rfl hR rfl (vin_lt (by omega) (by omega)) (hF.2.2.2 _ (by show (ca + x1).toInt.toNat < n; omega)) rfl ?_
  refine ml_blk 2 (S' := (15, [(0, .ref m0), (1, .int x1)], [.int ((f (ca + x1).toNatClampNeg) &&& 255)], M)) rfl ?_
  exact ml_ret rfl (rfl) (⟨rfl, rfl⟩)
set_option maxHeartbeats 2000000 in
theorem rm_b2 {g : xe_G}  {m0 : Nat} {q : Nat → Nat} {z : Nat × Nat} {I : rI} {R : rR} {M : mi_H} {x1 : Int32} {n : Nat} {f : Nat → Int32} {ca cl : Int32}  (hR : RS g m0 q z I R M) (hF : FK n f I R) (hC : CK n ca cl I R) (h0 : 0 ≤ x1.toInt) (h1 : x1.toInt + 2 ≤ cl.toInt) {d : Nat} (hd : 3 ≤ d) : mt (mT g) d 180 [.ref m0, .int x1] M (fun v M' => v = some (.int (f2 f (ca + x1))) ∧ M' = M) := by
  obtain ⟨d, rfl⟩ : ∃ e, d = e + 1 := ⟨d - 1, by omega⟩
  refine mt_in (b := mb_180 g) rfl rfl ?_
  show ml (mT g) d (mb_180 g).2 (0, [(0, .ref m0), (1, .int x1)], [], M) _
  have hn := hF.1
  obtain ⟨hca, hcl, hcn⟩ := hC.2.2
  have eca : (ca + x1).toInt = ca.toInt + x1.toInt := i_add (by omega) (by omega)
  refine ml_blk 2 (S' := (2, [(0, .ref m0), (1, .int x1)], [.ref m0, .ref m0], M)) rfl ?_
  refine rg_int (S' := (5, [(0, .ref m0), (1, .int x1)], [.int ca, .ref m0], M)) rfl hR rfl (hC.1) rfl ?_
  refine ml_blk 2 (S' := (7, [(0, .ref m0), (1, .int x1)], [.int (ca + x1), .ref m0], M)) rfl ?_
  refine ml_call (a := [.ref m0, .int (ca + x1)]) (rest := []) rfl (hR.okc rfl rfl rfl) rfl rfl (rm_u2 hR hF (by omega) (by omega) (by omega)) (fun v11 M12 h13 => ?_)
  obtain ⟨rfl, h13⟩ := h13
  rw [h13]
  show ml _ _ _ (10, [(0, .ref m0), (1, .int x1)], [.int (f2 f (ca + x1))], M) _
  exact ml_ret rfl (rfl) (⟨rfl, rfl⟩)
set_option maxHeartbeats 2000000 in
theorem rm_s2 {g : xe_G}  {m0 : Nat} {q : Nat → Nat} {z : Nat × Nat} {I : rI} {R : rR} {M : mi_H} {x1 : Int32} {n : Nat} {f : Nat → Int32} {ca cl : Int32}  (hR : RS g m0 q z I R M) (hF : FK n f I R) (hC : CK n ca cl I R) (h0 : 0 ≤ x1.toInt) (h1 : x1.toInt + 2 ≤ cl.toInt) {d : Nat} (hd : 4 ≤ d) : mt (mT g) d 240 [.ref m0, .int x1] M (fun v M' => v = some (.int (S2 f ca x1)) ∧ M' = M) := by
  obtain ⟨d, rfl⟩ : ∃ e, d = e + 1 := ⟨d - 1, by omega⟩
  refine mt_in (b := mb_240 g) rfl rfl ?_
  show ml (mT g) d (mb_240 g).2 (0, [(0, .ref m0), (1, .int x1)], [], M) _
  refine ml_blk 2 (S' := (2, [(0, .ref m0), (1, .int x1)], [.int x1, .ref m0], M)) rfl ?_
  refine ml_call (a := [.ref m0, .int x1]) (rest := []) rfl (hR.okc rfl rfl rfl) rfl rfl (rm_b2 hR hF hC (h0) (h1) (by omega)) (fun v11 M12 h13 => ?_)
  obtain ⟨rfl, h13⟩ := h13
  rw [h13]
  show ml _ _ _ (5, [(0, .ref m0), (1, .int x1)], [.int (f2 f (ca + x1))], M) _
  refine ml_st (S' := (6, [(0, .ref m0), (1, .int x1)], [.int ((f2 f (ca + x1)).toInt16.toInt32)], M)) rfl rfl rfl ?_
  exact ml_ret rfl (rfl) (⟨rfl, rfl⟩)
set_option maxHeartbeats 2000000 in
theorem rm_b4 {g : xe_G}  {m0 : Nat} {q : Nat → Nat} {z : Nat × Nat} {I : rI} {R : rR} {M : mi_H} {x1 : Int32} {n : Nat} {f : Nat → Int32} {ca cl : Int32}  (hR : RS g m0 q z I R M) (hF : FK n f I R) (hC : CK n ca cl I R) (h0 : 0 ≤ x1.toInt) (h1 : x1.toInt + 4 ≤ cl.toInt) {d : Nat} (hd : 4 ≤ d) : mt (mT g) d 181 [.ref m0, .int x1] M (fun v M' => v = some (.int (B4 f ca x1)) ∧ M' = M) := by
  obtain ⟨d, rfl⟩ : ∃ e, d = e + 1 := ⟨d - 1, by omega⟩
  refine mt_in (b := mb_181 g) rfl rfl ?_
  show ml (mT g) d (mb_181 g).2 (0, [(0, .ref m0), (1, .int x1)], [], M) _
  have hn := hF.1
  obtain ⟨hca, hcl, hcn⟩ := hC.2.2
  have eca : (ca + x1).toInt = ca.toInt + x1.toInt := i_add (by omega) (by omega)
  refine ml_blk 2 (S' := (2, [(0, .ref m0), (1, .int x1)], [.ref m0, .ref m0], M)) rfl ?_
  refine rg_int (S' := (5, [(0, .ref m0), (1, .int x1)], [.int ca, .ref m0], M)) rfl hR rfl (hC.1) rfl ?_
  refine ml_blk 2 (S' := (7, [(0, .ref m0), (1, .int x1)], [.int (ca + x1), .ref m0], M)) rfl ?_
  refine ml_call (a := [.ref m0, .int (ca + x1)]) (rest := []) rfl (hR.okc rfl rfl rfl) rfl rfl (rm_u4 hR hF (by omega) (by omega) (by omega)) (fun v11 M12 h13 => ?_)
  obtain ⟨rfl, h13⟩ := h13
  rw [h13]
  show ml _ _ _ (10, [(0, .ref m0), (1, .int x1)], [.long (f4 f (ca + x1))], M) _
  refine ml_st (S' := (11, [(0, .ref m0), (1, .int x1)], [.int (Int64.toInt32 (f4 f (ca + x1)))], M)) rfl rfl rfl ?_
  exact ml_ret rfl (rfl) (⟨rfl, rfl⟩)
set_option maxHeartbeats 2000000 in
theorem rm_pad {g : xe_G}  {m0 : Nat} {q : Nat → Nat} {z : Nat × Nat} {I : rI} {R : rR} {M : mi_H} {x1 : Int32}  (hR : RS g m0 q z I R M) {d : Nat} (hd : 1 ≤ d) : mt (mT g) d 229 [.int x1] M (fun v M' => v = some (.int (pd x1)) ∧ M' = M) := by
  obtain ⟨d, rfl⟩ : ∃ e, d = e + 1 := ⟨d - 1, by omega⟩
  refine mt_in (b := mb_229 g) rfl rfl ?_
  show ml (mT g) d (mb_229 g).2 (0, [(0, .int x1)], [], M) _
  refine ml_blk 3 (S' := (3, [(0, .int x1)], [.int (x1 + 4)], M)) rfl ?_
  refine ml_blk 2 (S' := (6, [(0, .int x1)], [.int ((x1 + 4) &&& (-4))], M)) rfl ?_
  exact ml_ret rfl (rfl) (⟨rfl, rfl⟩)
set_option maxHeartbeats 2000000 in
theorem rm_local {g : xe_G}  {m0 : Nat} {q : Nat → Nat} {z : Nat × Nat} {I : rI} {R : rR} {M : mi_H} {x1 x2 mx : Int32}  (hR : RS g m0 q z I R M) (hk79 : I 79 = some mx) {d : Nat} (hd : 1 ≤ d) : mt (mT g) d 222 [.ref m0, .int x1, .int x2] M (fun v M' => (∃ x : Int32, v = some (.int x) ∧ (x = 0 ∨ x = 1)) ∧ M' = M) := by
  obtain ⟨d, rfl⟩ : ∃ e, d = e + 1 := ⟨d - 1, by omega⟩
  refine mt_in (b := mb_222 g) rfl rfl ?_
  show ml (mT g) d (mb_222 g).2 (0, [(0, .ref m0), (1, .int x1), (2, .int x2)], [], M) _
  refine ml_blk 3 (S' := (3, [(0, .ref m0), (1, .int x1), (2, .int x2)], [.int (x1 + x2)], M)) rfl ?_
  refine ml_st (S' := (4, [(0, .ref m0), (1, .int x1), (2, .int x2)], [.ref m0, .int (x1 + x2)], M)) rfl rfl rfl ?_
  refine rg_int (S' := (7, [(0, .ref m0), (1, .int x1), (2, .int x2)], [.int mx, .int (x1 + x2)], M)) rfl hR rfl (hk79) rfl ?_
  refine ml_if2 (S1 := (14, [(0, .ref m0), (1, .int x1), (2, .int x2)], [], M)) (S2 := (10, [(0, .ref m0), (1, .int x1), (2, .int x2)], [], M)) rfl rfl rfl (fun c_7 => ?_) (fun c_7 => ?_)
  · have c_7 : mx < (x1 + x2) := of_decide_eq_true c_7
    refine ml_st (S' := (15, [], [.int 0], M)) rfl rfl rfl ?_
    exact ml_ret rfl (r_z (Or.inl rfl)) (⟨⟨_, rfl, Or.inl rfl⟩, rfl⟩)
  · have c_7 : ¬ (mx < (x1 + x2)) := of_decide_eq_false c_7
    refine ml_st (S' := (11, [(0, .ref m0), (1, .int x1), (2, .int x2)], [.int 1], M)) rfl rfl rfl ?_
    refine ml_st (S' := (15, [], [.int 1], M)) rfl rfl rfl ?_
    exact ml_ret rfl (r_z (Or.inr rfl)) (⟨⟨_, rfl, Or.inr rfl⟩, rfl⟩)
set_option maxHeartbeats 2000000 in
theorem rm_starts {g : xe_G}  {m0 : Nat} {q : Nat → Nat} {z : Nat × Nat} {I : rI} {R : rR} {M : mi_H} {x1 : Int64} {n : Nat} {ca cl : Int32}  (hR : RS g m0 q z I R M) (hC : CK n ca cl I R) (hn : n ≤ 65540) (hW : ∀ i, i < cl.toInt.toNat → ∃ v, R 81 i = some v) {d : Nat} (hd : 1 ≤ d) : mt (mT g) d 243 [.ref m0, .long x1] M (fun v M' => (∃ x : Int32, v = some (.int x) ∧ (x = 0 ∨ x = 1) ∧ (x = 0 ∨ 0 ≤ x1.toInt ∧ x1.toInt < cl.toInt)) ∧ M' = M) := by
  obtain ⟨d, rfl⟩ : ∃ e, d = e + 1 := ⟨d - 1, by omega⟩
  refine mt_in (b := mb_243 g) rfl rfl ?_
  show ml (mT g) d (mb_243 g).2 (0, [(0, .ref m0), (1, .long x1)], [], M) _
  obtain ⟨hca, hcl, hcn⟩ := hC.2.2
  refine ml_blk 3 (S' := (3, [(0, .ref m0), (1, .long x1)], [.int (lg_cmp x1 0)], M)) rfl ?_
  refine ml_if (S1 := (30, [], [], M)) (S2 := (6, [(0, .ref m0), (1, .long x1)], [], M)) rfl rfl rfl (fun c_3 => ?_) (fun c_3 => ?_)
  · have c_3 : (lg_cmp x1 0) < 0 := of_decide_eq_true c_3
    refine ml_st (S' := (31, [], [.int 0], M)) rfl rfl rfl ?_
    exact ml_ret rfl (r_z (Or.inl rfl)) (⟨⟨_, rfl, Or.inl rfl, Or.inl rfl⟩, rfl⟩)
  · have c_3 : ¬ ((lg_cmp x1 0) < 0) := of_decide_eq_false c_3
    refine ml_blk 2 (S' := (8, [(0, .ref m0), (1, .long x1)], [.ref m0, .long x1], M)) rfl ?_
    refine rg_int (S' := (11, [(0, .ref m0), (1, .long x1)], [.int cl, .long x1], M)) rfl hR rfl (hC.2.1) rfl ?_
    refine ml_blk 2 (S' := (13, [(0, .ref m0), (1, .long x1)], [.int (lg_cmp x1 (Int32.toInt64 cl))], M)) rfl ?_
    refine ml_if (S1 := (30, [], [], M)) (S2 := (16, [(0, .ref m0), (1, .long x1)], [], M)) rfl rfl rfl (fun c_13 => ?_) (fun c_13 => ?_)
    · have c_13 : 0 ≤ (lg_cmp x1 (Int32.toInt64 cl)) := of_decide_eq_true c_13
      refine ml_st (S' := (31, [], [.int 0], M)) rfl rfl rfl ?_
      exact ml_ret rfl (r_z (Or.inl rfl)) (⟨⟨_, rfl, Or.inl rfl, Or.inl rfl⟩, rfl⟩)
    · have c_13 : ¬ (0 ≤ (lg_cmp x1 (Int32.toInt64 cl))) := of_decide_eq_false c_13
      have q0 : 0 ≤ x1.toInt := lc_ge c_3
      have q1 : x1.toInt < cl.toInt := by have q := lc_lt (Int32.not_le.mp c_13); rw [l_of] at q; exact q
      have e1 : (Int64.toInt32 x1).toInt = x1.toInt := i_of (by omega) (by omega)
      obtain ⟨v9, hv9⟩ := hW (Int64.toInt32 x1).toNatClampNeg (by show (Int64.toInt32 x1).toInt.toNat < _; omega)
      refine ml_st (S' := (17, [(0, .ref m0), (1, .long x1)], [.ref m0], M)) rfl rfl rfl ?_
      refine rg_ref (S' := (20, [(0, .ref m0), (1, .long x1)], [.ref (q 81)], M)) rfl hR rfl rfl ?_
      refine ml_blk 2 (S' := (22, [(0, .ref m0), (1, .long x1)], [.int (Int64.toInt32 x1), .ref (q 81)], M)) rfl ?_
      refine ra_ld (k := 81) (S' := (23, [(0, .ref m0), (1, .long x1)], [.int v9], M)) rfl hR rfl (vin_lt (by omega) (by omega)) (hv9) rfl ?_
      refine ml_if (S1 := (30, [], [], M)) (S2 := (26, [(0, .ref m0), (1, .long x1)], [], M)) rfl rfl rfl (fun c_23 => ?_) (fun c_23 => ?_)
      · have c_23 : v9 < 0 := of_decide_eq_true c_23
        refine ml_st (S' := (31, [], [.int 0], M)) rfl rfl rfl ?_
        exact ml_ret rfl (r_z (Or.inl rfl)) (⟨⟨_, rfl, Or.inl rfl, Or.inl rfl⟩, rfl⟩)
      · have c_23 : ¬ (v9 < 0) := of_decide_eq_false c_23
        refine ml_st (S' := (27, [(0, .ref m0), (1, .long x1)], [.int 1], M)) rfl rfl rfl ?_
        refine ml_st (S' := (31, [], [.int 1], M)) rfl rfl rfl ?_
        exact ml_ret rfl (r_z (Or.inr rfl)) (⟨⟨_, rfl, Or.inr rfl, Or.inr ⟨q0, q1⟩⟩, rfl⟩)
set_option maxHeartbeats 2000000 in
theorem rm_ways {g : xe_G}  {m0 : Nat} {q : Nat → Nat} {z : Nat × Nat} {I : rI} {R : rR} {M : mi_H} {x1 : Int32} {n : Nat} {f : Nat → Int32} {ca cl : Int32}  (hR : RS g m0 q z I R M) (hF : FK n f I R) (hC : CK n ca cl I R) (h0 : 0 ≤ x1.toInt) (h1 : x1.toInt < cl.toInt) (hs : SWF f ca cl x1) (ho : f1 f (ca + x1) = 170 ∨ f1 f (ca + x1) = 171) {d : Nat} (hd : 5 ≤ d) : mt (mT g) d 254 [.ref m0, .int x1] M (fun v M' => v = some (.int (wyf f ca x1)) ∧ M' = M) := by
  obtain ⟨d, rfl⟩ : ∃ e, d = e + 1 := ⟨d - 1, by omega⟩
  refine mt_in (b := mb_254 g) rfl rfl ?_
  show ml (mT g) d (mb_254 g).2 (0, [(0, .ref m0), (1, .int x1)], [], M) _
  have hn := hF.1
  obtain ⟨hca, hcl, hcn⟩ := hC.2.2
  have hp := pd_b h0 (by omega)
  have e4 : (4 : Int32).toInt = 4 := rfl
  have e8 : (8 : Int32).toInt = 8 := rfl
  have d4 : (pd x1 + 4).toInt = (pd x1).toInt + 4 := by rw [i_add (by omega) (by omega), e4]
  have d8 : (pd x1 + 8).toInt = (pd x1).toInt + 8 := by rw [i_add (by omega) (by omega), e8]
  refine ml_st (S' := (1, [(0, .ref m0), (1, .int x1)], [.int x1], M)) rfl rfl rfl ?_
  refine ml_call (a := [.int x1]) (rest := []) rfl (rfl) rfl rfl (rm_pad hR (by omega)) (fun v11 M12 h13 => ?_)
  obtain ⟨rfl, h13⟩ := h13
  rw [h13]
  show ml _ _ _ (4, [(0, .ref m0), (1, .int x1)], [.int (pd x1)], M) _
  refine ml_st (S' := (5, [(2, .int (pd x1)), (0, .ref m0), (1, .int x1)], [], M)) rfl rfl rfl ?_
  refine ml_blk 3 (S' := (8, [(2, .int (pd x1)), (0, .ref m0), (1, .int x1)], [.int x1, .ref m0, .int 1], M)) rfl ?_
  refine ml_call (a := [.ref m0, .int x1]) (rest := [.int 1]) rfl (hR.okc rfl rfl rfl) rfl rfl (rm_b1 hR hF hC (h0) (by omega) (by omega)) (fun v14 M15 h16 => ?_)
  obtain ⟨rfl, h16⟩ := h16
  rw [h16]
  show ml _ _ _ (11, [(2, .int (pd x1)), (0, .ref m0), (1, .int x1)], [.int (f1 f (ca + x1)), .int 1], M) _
  refine ml_st (S' := (14, [(2, .int (pd x1)), (0, .ref m0), (1, .int x1)], [.int 170, .int (f1 f (ca + x1)), .int 1], M)) rfl rfl rfl ?_
  refine ml_if2 (S1 := (38, [(2, .int (pd x1)), (0, .ref m0), (1, .int x1)], [.int 1], M)) (S2 := (17, [(2, .int (pd x1)), (0, .ref m0), (1, .int x1)], [.int 1], M)) rfl rfl rfl (fun c_14 => ?_) (fun c_14 => ?_)
  · have c_14 : ¬ (f1 f (ca + x1)) = 170 := of_decide_eq_true c_14
    refine ml_blk 3 (S' := (41, [(2, .int (pd x1)), (0, .ref m0), (1, .int x1)], [.int 4, .int (pd x1), .ref m0, .int 1], M)) rfl ?_
    refine ml_st (S' := (42, [(2, .int (pd x1)), (0, .ref m0), (1, .int x1)], [.int ((pd x1) + 4), .ref m0, .int 1], M)) rfl rfl rfl ?_
    refine ml_call (a := [.ref m0, .int ((pd x1) + 4)]) (rest := [.int 1]) rfl (hR.okc rfl rfl rfl) rfl rfl (rm_b4 hR hF hC (by omega) (by have q := hs.2 (ho.resolve_left c_14); omega) (by omega)) (fun v17 M18 h19 => ?_)
    obtain ⟨rfl, h19⟩ := h19
    rw [h19]
    show ml _ _ _ (45, [], [.int (B4 f ca ((pd x1) + 4)), .int 1], M) _
    refine ml_st (S' := (46, [], [.int (1 + (B4 f ca ((pd x1) + 4)))], M)) rfl rfl rfl ?_
    exact ml_ret rfl (rfl) (⟨congrArg (fun y => some (Value.int y)) (show _ = wyf f ca x1 by rw [wyf, if_neg c_14]), rfl⟩)
  · have c_14 : ¬ (¬ (f1 f (ca + x1)) = 170) := of_decide_eq_false c_14
    refine ml_blk 3 (S' := (21, [(2, .int (pd x1)), (0, .ref m0), (1, .int x1)], [.int 8, .int (pd x1), .ref m0, .int 1], M)) rfl ?_
    refine ml_st (S' := (22, [(2, .int (pd x1)), (0, .ref m0), (1, .int x1)], [.int ((pd x1) + 8), .ref m0, .int 1], M)) rfl rfl rfl ?_
    refine ml_call (a := [.ref m0, .int ((pd x1) + 8)]) (rest := [.int 1]) rfl (hR.okc rfl rfl rfl) rfl rfl (rm_b4 hR hF hC (by omega) (by have q := hs.1 (Decidable.not_not.mp c_14); omega) (by omega)) (fun v20 M21 h22 => ?_)
    obtain ⟨rfl, h22⟩ := h22
    rw [h22]
    show ml _ _ _ (25, [(2, .int (pd x1)), (0, .ref m0), (1, .int x1)], [.int (B4 f ca ((pd x1) + 8)), .int 1], M) _
    refine ml_blk 3 (S' := (28, [(2, .int (pd x1)), (0, .ref m0), (1, .int x1)], [.int 4, .int (pd x1), .ref m0, .int (B4 f ca ((pd x1) + 8)), .int 1], M)) rfl ?_
    refine ml_st (S' := (29, [(2, .int (pd x1)), (0, .ref m0), (1, .int x1)], [.int ((pd x1) + 4), .ref m0, .int (B4 f ca ((pd x1) + 8)), .int 1], M)) rfl rfl rfl ?_
    refine ml_call (a := [.ref m0, .int ((pd x1) + 4)]) (rest := [.int (B4 f ca ((pd x1) + 8)), .int 1]) rfl (hR.okc rfl rfl rfl) rfl rfl (rm_b4 hR hF hC (by omega) (by have q := hs.1 (Decidable.not_not.mp c_14); omega) (by omega)) (fun v23 M24 h25 => ?_)
    obtain ⟨rfl, h25⟩ := h25
    rw [h25]
    show ml _ _ _ (32, [(2, .int (pd x1)), (0, .ref m0), (1, .int x1)], [.int (B4 f ca ((pd x1) + 4)), .int (B4 f ca ((pd x1) + 8)), .int 1], M) _
    refine ml_blk 3 (S' := (35, [(2, .int (pd x1)), (0, .ref m0), (1, .int x1)], [.int (((B4 f ca ((pd x1) + 8)) - (B4 f ca ((pd x1) + 4))) + 1), .int 1], M)) rfl ?_
    refine ml_st (S' := (45, [], [.int (((B4 f ca ((pd x1) + 8)) - (B4 f ca ((pd x1) + 4))) + 1), .int 1], M)) rfl rfl rfl ?_
    refine ml_st (S' := (46, [], [.int (1 + (((B4 f ca ((pd x1) + 8)) - (B4 f ca ((pd x1) + 4))) + 1))], M)) rfl rfl rfl ?_
    exact ml_ret rfl (rfl) (⟨congrArg (fun y => some (Value.int y)) (show _ = wyf f ca x1 by rw [wyf, if_pos (Decidable.not_not.mp c_14)]), rfl⟩)
set_option maxHeartbeats 2000000 in
theorem rm_wayAt {g : xe_G}  {m0 : Nat} {q : Nat → Nat} {z : Nat × Nat} {I : rI} {R : rR} {M : mi_H} {x1 x2 : Int32} {n : Nat} {f : Nat → Int32} {ca cl : Int32}  (hR : RS g m0 q z I R M) (hF : FK n f I R) (hC : CK n ca cl I R) (h0 : 0 ≤ x1.toInt) (h1 : x1.toInt < cl.toInt) {d : Nat} (hd : 2 ≤ d) : mt (mT g) d 253 [.ref m0, .int x1, .int x2] M (fun v M' => v = some (.int (waf f ca x1 x2)) ∧ M' = M) := by
  obtain ⟨d, rfl⟩ : ∃ e, d = e + 1 := ⟨d - 1, by omega⟩
  refine mt_in (b := mb_253 g) rfl rfl ?_
  show ml (mT g) d (mb_253 g).2 (0, [(0, .ref m0), (1, .int x1), (2, .int x2)], [], M) _
  refine ml_st (S' := (1, [(0, .ref m0), (1, .int x1), (2, .int x2)], [.int x1], M)) rfl rfl rfl ?_
  refine ml_call (a := [.int x1]) (rest := []) rfl (rfl) rfl rfl (rm_pad hR (by omega)) (fun v11 M12 h13 => ?_)
  obtain ⟨rfl, h13⟩ := h13
  rw [h13]
  show ml _ _ _ (4, [(0, .ref m0), (1, .int x1), (2, .int x2)], [.int (pd x1)], M) _
  refine ml_st (S' := (5, [(3, .int (pd x1)), (0, .ref m0), (1, .int x1), (2, .int x2)], [], M)) rfl rfl rfl ?_
  refine ml_st (S' := (6, [(3, .int (pd x1)), (0, .ref m0), (1, .int x1), (2, .int x2)], [.int x2], M)) rfl rfl rfl ?_
  refine ml_if (S1 := (13, [(3, .int (pd x1)), (0, .ref m0), (1, .int x1), (2, .int x2)], [], M)) (S2 := (9, [(3, .int (pd x1)), (0, .ref m0), (1, .int x1), (2, .int x2)], [], M)) rfl rfl rfl (fun c_6 => ?_) (fun c_6 => ?_)
  · have c_6 : ¬ x2 = 0 := of_decide_eq_true c_6
    refine ml_blk 2 (S' := (15, [(3, .int (pd x1)), (0, .ref m0), (1, .int x1), (2, .int x2)], [.int x1, .ref m0], M)) rfl ?_
    refine ml_call (a := [.ref m0, .int x1]) (rest := []) rfl (hR.okc rfl rfl rfl) rfl rfl (rm_b1 hR hF hC (h0) (by omega) (by omega)) (fun v14 M15 h16 => ?_)
    obtain ⟨rfl, h16⟩ := h16
    rw [h16]
    show ml _ _ _ (18, [(3, .int (pd x1)), (0, .ref m0), (1, .int x1), (2, .int x2)], [.int (f1 f (ca + x1))], M) _
    refine ml_st (S' := (21, [(3, .int (pd x1)), (0, .ref m0), (1, .int x1), (2, .int x2)], [.int 170, .int (f1 f (ca + x1))], M)) rfl rfl rfl ?_
    refine ml_if2 (S1 := (35, [(3, .int (pd x1)), (0, .ref m0), (1, .int x1), (2, .int x2)], [], M)) (S2 := (24, [(3, .int (pd x1)), (0, .ref m0), (1, .int x1), (2, .int x2)], [], M)) rfl rfl rfl (fun c_21 => ?_) (fun c_21 => ?_)
    · have c_21 : ¬ (f1 f (ca + x1)) = 170 := of_decide_eq_true c_21
      refine ml_blk 3 (S' := (38, [(3, .int (pd x1)), (0, .ref m0), (1, .int x1), (2, .int x2)], [.int ((pd x1) + 4)], M)) rfl ?_
      refine ml_blk 3 (S' := (42, [(3, .int (pd x1)), (0, .ref m0), (1, .int x1), (2, .int x2)], [.int (8 * x2), .int ((pd x1) + 4)], M)) rfl ?_
      refine ml_st (S' := (43, [], [.int (((pd x1) + 4) + (8 * x2))], M)) rfl rfl rfl ?_
      exact ml_ret rfl (rfl) (⟨congrArg (fun y => some (Value.int y)) (show _ = waf f ca x1 x2 by rw [waf, if_neg c_6, if_neg c_21]), rfl⟩)
    · have c_21 : ¬ (¬ (f1 f (ca + x1)) = 170) := of_decide_eq_false c_21
      refine ml_blk 3 (S' := (28, [(3, .int (pd x1)), (0, .ref m0), (1, .int x1), (2, .int x2)], [.int ((pd x1) + 8)], M)) rfl ?_
      refine ml_blk 3 (S' := (31, [(3, .int (pd x1)), (0, .ref m0), (1, .int x1), (2, .int x2)], [.int (4 * x2), .int ((pd x1) + 8)], M)) rfl ?_
      refine ml_st (S' := (32, [(3, .int (pd x1)), (0, .ref m0), (1, .int x1), (2, .int x2)], [.int (((pd x1) + 8) + (4 * x2))], M)) rfl rfl rfl ?_
      refine ml_st (S' := (43, [], [.int (((pd x1) + 8) + (4 * x2))], M)) rfl rfl rfl ?_
      exact ml_ret rfl (rfl) (⟨congrArg (fun y => some (Value.int y)) (show _ = waf f ca x1 x2 by rw [waf, if_neg c_6, if_pos (Decidable.not_not.mp c_21)]), rfl⟩)
  · have c_6 : ¬ (¬ x2 = 0) := of_decide_eq_false c_6
    refine ml_st (S' := (10, [(3, .int (pd x1)), (0, .ref m0), (1, .int x1), (2, .int x2)], [.int (pd x1)], M)) rfl rfl rfl ?_
    refine ml_st (S' := (43, [], [.int (pd x1)], M)) rfl rfl rfl ?_
    exact ml_ret rfl (rfl) (⟨congrArg (fun y => some (Value.int y)) (show _ = waf f ca x1 x2 by rw [waf, if_pos (Decidable.not_not.mp c_6)]), rfl⟩)
set_option maxHeartbeats 2000000 in
theorem rm_aims {g : xe_G}  {m0 : Nat} {q : Nat → Nat} {z : Nat × Nat} {I : rI} {R : rR} {M : mi_H} {x1 : Int32} {n : Nat} {f : Nat → Int32} {ca cl : Int32}  (hR : RS g m0 q z I R M) (hF : FK n f I R) (hC : CK n ca cl I R) (hI : INS f ca cl x1) (hW : ∀ i, i < cl.toInt.toNat → ∃ v, R 81 i = some v) {d : Nat} (hd : 6 ≤ d) : mt (mT g) d 174 [.ref m0, .int x1] M (fun v M' => (∃ x : Int32, v = some (.int x) ∧ (x = 0 ∨ x = 1) ∧ (x = 0 ∨ AIM f ca cl x1)) ∧ M' = M) := by
  obtain ⟨d, rfl⟩ : ∃ e, d = e + 1 := ⟨d - 1, by omega⟩
  refine mt_in (b := mb_174 g) rfl rfl ?_
  show ml (mT g) d (mb_174 g).2 (0, [(0, .ref m0), (1, .int x1)], [], M) _
  have hn := hF.1
  obtain ⟨hca, hcl, hcn⟩ := hC.2.2
  obtain ⟨h0, nn, hn1, hnn, hln, -, hsw⟩ := hI
  have e1 : (1 : Int32).toInt = 1 := rfl
  have d1 : (x1 + 1).toInt = x1.toInt + 1 := by rw [i_add (by omega) (by omega), e1]
  refine ml_blk 2 (S' := (2, [(0, .ref m0), (1, .int x1)], [.int x1, .ref m0], M)) rfl ?_
  refine ml_call (a := [.ref m0, .int x1]) (rest := []) rfl (hR.okc rfl rfl rfl) rfl rfl (rm_b1 hR hF hC (h0) (by omega) (by omega)) (fun v11 M12 h13 => ?_)
  obtain ⟨rfl, h13⟩ := h13
  rw [h13]
  show ml _ _ _ (5, [(0, .ref m0), (1, .int x1)], [.int (f1 f (ca + x1))], M) _
  refine ml_st (S' := (6, [(2, .int (f1 f (ca + x1))), (0, .ref m0), (1, .int x1)], [], M)) rfl rfl rfl ?_
  refine ml_blk 2 (S' := (10, [(2, .int (f1 f (ca + x1))), (0, .ref m0), (1, .int x1)], [.int 153, .int (f1 f (ca + x1))], M)) rfl ?_
  have J_34 : BRO (f1 f (ca + x1)) → ml (mT g) d (mb_174 g).2 (34, [(0, .ref m0), (1, .int x1)], [], M) (fun v M' => (∃ x : Int32, v = some (.int x) ∧ (x = 0 ∨ x = 1) ∧ (x = 0 ∨ AIM f ca cl x1)) ∧ M' = M) := by
    intro hj_34
    have h3 : (3 : Int) ≤ nn := by rcases hj_34 with h | h | h; exact iln 3 hln 153 168 h.1 h.2 mlk_3_153_168; exact iln 3 hln 198 198 (by rw [show _ = (198 : Int32) from h]; decide) (by rw [show _ = (198 : Int32) from h]; decide) mlk_3_198_198; exact iln 3 hln 199 199 (by rw [show _ = (199 : Int32) from h]; decide) (by rw [show _ = (199 : Int32) from h]; decide) mlk_3_199_199
    refine ml_blk 3 (S' := (37, [(0, .ref m0), (1, .int x1)], [.ref m0, .int x1, .ref m0], M)) rfl ?_
    refine ml_blk 3 (S' := (40, [(0, .ref m0), (1, .int x1)], [.int (x1 + 1), .ref m0, .int x1, .ref m0], M)) rfl ?_
    refine ml_call (a := [.ref m0, .int (x1 + 1)]) (rest := [.int x1, .ref m0]) rfl (hR.okc rfl rfl rfl) rfl rfl (rm_s2 hR hF hC (by omega) (by omega) (by omega)) (fun v14 M15 h16 => ?_)
    obtain ⟨rfl, h16⟩ := h16
    rw [h16]
    show ml _ _ _ (43, [(0, .ref m0), (1, .int x1)], [.int (S2 f ca (x1 + 1)), .int x1, .ref m0], M) _
    refine ml_blk 2 (S' := (45, [(0, .ref m0), (1, .int x1)], [.long (Int32.toInt64 (x1 + (S2 f ca (x1 + 1)))), .ref m0], M)) rfl ?_
    refine ml_call (a := [.ref m0, .long (Int32.toInt64 (x1 + (S2 f ca (x1 + 1))))]) (rest := []) rfl (hR.okc rfl rfl rfl) rfl rfl (rm_starts hR hC (hn) (hW) (by omega)) (fun v17 M18 h19 => ?_)
    obtain ⟨⟨u20, rfl, z21, w22⟩, h19⟩ := h19
    rw [h19]
    show ml _ _ _ (48, [(0, .ref m0), (1, .int x1)], [.int u20], M) _
    exact ml_ret rfl (r_z (z21)) (⟨⟨_, rfl, z21, w22.imp id (fun h => by first | exact AIM.br hj_34 h | exact AIM.wd (by omega) hj_63 h)⟩, rfl⟩)
  have J_20 : (¬ (153 ≤ (f1 f (ca + x1)).toInt ∧ (f1 f (ca + x1)).toInt ≤ 168)) → ml (mT g) d (mb_174 g).2 (20, [(0, .ref m0), (1, .int x1), (2, .int (f1 f (ca + x1)))], [], M) (fun v M' => (∃ x : Int32, v = some (.int x) ∧ (x = 0 ∨ x = 1) ∧ (x = 0 ∨ AIM f ca cl x1)) ∧ M' = M) := by
    intro hj_20
    refine ml_blk 2 (S' := (24, [(0, .ref m0), (1, .int x1), (2, .int (f1 f (ca + x1)))], [.int 198, .int (f1 f (ca + x1))], M)) rfl ?_
    refine ml_if2 (S1 := (34, [(0, .ref m0), (1, .int x1)], [], M)) (S2 := (27, [(0, .ref m0), (1, .int x1), (2, .int (f1 f (ca + x1)))], [], M)) rfl rfl rfl (fun c_24 => ?_) (fun c_24 => ?_)
    · have c_24 : (f1 f (ca + x1)) = 198 := of_decide_eq_true c_24
      exact J_34  (Or.inr (Or.inl c_24))
    · have c_24 : ¬ ((f1 f (ca + x1)) = 198) := of_decide_eq_false c_24
      refine ml_blk 2 (S' := (31, [(0, .ref m0), (1, .int x1), (2, .int (f1 f (ca + x1)))], [.int 199, .int (f1 f (ca + x1))], M)) rfl ?_
      refine ml_if2 (S1 := (49, [(0, .ref m0), (1, .int x1), (2, .int (f1 f (ca + x1)))], [], M)) (S2 := (34, [(0, .ref m0), (1, .int x1)], [], M)) rfl rfl rfl (fun c_31 => ?_) (fun c_31 => ?_)
      · have c_31 : ¬ (f1 f (ca + x1)) = 199 := of_decide_eq_true c_31
        refine ml_blk 2 (S' := (53, [(0, .ref m0), (1, .int x1), (2, .int (f1 f (ca + x1)))], [.int 200, .int (f1 f (ca + x1))], M)) rfl ?_
        have J_63 : (f1 f (ca + x1) = 200 ∨ f1 f (ca + x1) = 201) → ml (mT g) d (mb_174 g).2 (63, [(0, .ref m0), (1, .int x1)], [], M) (fun v M' => (∃ x : Int32, v = some (.int x) ∧ (x = 0 ∨ x = 1) ∧ (x = 0 ∨ AIM f ca cl x1)) ∧ M' = M) := by
          intro hj_63
          have h5 : (5 : Int) ≤ nn := by rcases hj_63 with h | h; exact iln 5 hln 200 200 (by rw [show _ = (200 : Int32) from h]; decide) (by rw [show _ = (200 : Int32) from h]; decide) mlk_5_200_200; exact iln 5 hln 201 201 (by rw [show _ = (201 : Int32) from h]; decide) (by rw [show _ = (201 : Int32) from h]; decide) mlk_5_201_201
          refine ml_blk 3 (S' := (66, [(0, .ref m0), (1, .int x1)], [.long (Int32.toInt64 x1), .ref m0], M)) rfl ?_
          refine ml_blk 3 (S' := (69, [(0, .ref m0), (1, .int x1)], [.int 1, .int x1, .ref m0, .long (Int32.toInt64 x1), .ref m0], M)) rfl ?_
          refine ml_st (S' := (70, [(0, .ref m0), (1, .int x1)], [.int (x1 + 1), .ref m0, .long (Int32.toInt64 x1), .ref m0], M)) rfl rfl rfl ?_
          refine ml_call (a := [.ref m0, .int (x1 + 1)]) (rest := [.long (Int32.toInt64 x1), .ref m0]) rfl (hR.okc rfl rfl rfl) rfl rfl (rm_b4 hR hF hC (by omega) (by omega) (by omega)) (fun v23 M24 h25 => ?_)
          obtain ⟨rfl, h25⟩ := h25
          rw [h25]
          show ml _ _ _ (73, [(0, .ref m0), (1, .int x1)], [.int (B4 f ca (x1 + 1)), .long (Int32.toInt64 x1), .ref m0], M) _
          refine ml_blk 2 (S' := (75, [(0, .ref m0), (1, .int x1)], [.long ((Int32.toInt64 x1) + (Int32.toInt64 (B4 f ca (x1 + 1)))), .ref m0], M)) rfl ?_
          refine ml_call (a := [.ref m0, .long ((Int32.toInt64 x1) + (Int32.toInt64 (B4 f ca (x1 + 1))))]) (rest := []) rfl (hR.okc rfl rfl rfl) rfl rfl (rm_starts hR hC (hn) (hW) (by omega)) (fun v26 M27 h28 => ?_)
          obtain ⟨⟨u29, rfl, z30, w31⟩, h28⟩ := h28
          rw [h28]
          show ml _ _ _ (78, [(0, .ref m0), (1, .int x1)], [.int u29], M) _
          exact ml_ret rfl (r_z (z30)) (⟨⟨_, rfl, z30, w31.imp id (fun h => by first | exact AIM.br hj_34 h | exact AIM.wd (by omega) hj_63 h)⟩, rfl⟩)
        refine ml_if2 (S1 := (63, [(0, .ref m0), (1, .int x1)], [], M)) (S2 := (56, [(0, .ref m0), (1, .int x1), (2, .int (f1 f (ca + x1)))], [], M)) rfl rfl rfl (fun c_53 => ?_) (fun c_53 => ?_)
        · have c_53 : (f1 f (ca + x1)) = 200 := of_decide_eq_true c_53
          exact J_63  (Or.inl c_53)
        · have c_53 : ¬ ((f1 f (ca + x1)) = 200) := of_decide_eq_false c_53
          refine ml_blk 2 (S' := (60, [(0, .ref m0), (1, .int x1), (2, .int (f1 f (ca + x1)))], [.int 201, .int (f1 f (ca + x1))], M)) rfl ?_
          refine ml_if2 (S1 := (79, [(0, .ref m0), (1, .int x1), (2, .int (f1 f (ca + x1)))], [], M)) (S2 := (63, [(0, .ref m0), (1, .int x1)], [], M)) rfl rfl rfl (fun c_60 => ?_) (fun c_60 => ?_)
          · have c_60 : ¬ (f1 f (ca + x1)) = 201 := of_decide_eq_true c_60
            refine ml_blk 2 (S' := (83, [(0, .ref m0), (1, .int x1), (2, .int (f1 f (ca + x1)))], [.int 170, .int (f1 f (ca + x1))], M)) rfl ?_
            have J_93 : (f1 f (ca + x1) = 170 ∨ f1 f (ca + x1) = 171) → ml (mT g) d (mb_174 g).2 (93, [(0, .ref m0), (1, .int x1)], [], M) (fun v M' => (∃ x : Int32, v = some (.int x) ∧ (x = 0 ∨ x = 1) ∧ (x = 0 ∨ AIM f ca cl x1)) ∧ M' = M) := by
              intro hj_93
              refine ml_st (S' := (94, [(0, .ref m0), (1, .int x1)], [.int 0], M)) rfl rfl rfl ?_
              refine ml_st (S' := (95, [(0, .ref m0), (1, .int x1), (3, .int 0)], [], M)) rfl rfl rfl ?_
              have L_95 : ∀ (n_95 : Nat) (i95_3 : Int32), (2147483648 - i95_3.toInt).toNat ≤ n_95 → (0 ≤ i95_3.toInt ∧ ∀ i : Int32, 0 ≤ i.toInt → i.toInt < i95_3.toInt → 0 ≤ (x1 + B4 f ca (waf f ca x1 i)).toInt ∧ (x1 + B4 f ca (waf f ca x1 i)).toInt < cl.toInt) → ml (mT g) d (mb_174 g).2 (95, [(0, .ref m0), (1, .int x1), (3, .int i95_3)], [], M) (fun v M' => (∃ x : Int32, v = some (.int x) ∧ (x = 0 ∨ x = 1) ∧ (x = 0 ∨ AIM f ca cl x1)) ∧ M' = M) := by
                intro n_95
                induction n_95 with
                | zero => intro i95_3 hn; exact (loop_zero hn).elim
                | succ n_95 ih_95 =>
                  intro i95_3 hn_95 hi_95
                  obtain ⟨hk0, hka⟩ := hi_95
                  refine ml_blk 3 (S' := (98, [(0, .ref m0), (1, .int x1), (3, .int i95_3)], [.int x1, .ref m0, .int i95_3], M)) rfl ?_
                  refine ml_call (a := [.ref m0, .int x1]) (rest := [.int i95_3]) rfl (hR.okc rfl rfl rfl) rfl rfl (rm_ways hR hF hC (h0) (by omega) (hsw hj_93) (hj_93) (by omega)) (fun v32 M33 h34 => ?_)
                  obtain ⟨rfl, h34⟩ := h34
                  rw [h34]
                  show ml _ _ _ (101, [(0, .ref m0), (1, .int x1), (3, .int i95_3)], [.int (wyf f ca x1), .int i95_3], M) _
                  refine ml_if2 (S1 := (133, [], [], M)) (S2 := (104, [(0, .ref m0), (1, .int x1), (3, .int i95_3)], [], M)) rfl rfl rfl (fun c_101 => ?_) (fun c_101 => ?_)
                  · have c_101 : (wyf f ca x1) ≤ i95_3 := of_decide_eq_true c_101
                    refine ml_st (S' := (134, [], [.int 1], M)) rfl rfl rfl ?_
                    exact ml_ret rfl (r_z (Or.inr rfl)) (⟨⟨_, rfl, Or.inr rfl, Or.inr (AIM.sw hj_93 (fun i a b => hka i a (by have := i_le c_101; omega)))⟩, rfl⟩)
                  · have c_101 : ¬ ((wyf f ca x1) ≤ i95_3) := of_decide_eq_false c_101
                    have hlt := i_nle c_101
                    have hwb := waf_b (by omega) h0 (by omega) (hsw hj_93) hj_93 hk0 hlt
                    refine ml_blk 3 (S' := (107, [(0, .ref m0), (1, .int x1), (3, .int i95_3)], [.long (Int32.toInt64 x1), .ref m0], M)) rfl ?_
                    refine ml_blk 3 (S' := (110, [(0, .ref m0), (1, .int x1), (3, .int i95_3)], [.int x1, .ref m0, .ref m0, .long (Int32.toInt64 x1), .ref m0], M)) rfl ?_
                    refine ml_st (S' := (111, [(0, .ref m0), (1, .int x1), (3, .int i95_3)], [.int i95_3, .int x1, .ref m0, .ref m0, .long (Int32.toInt64 x1), .ref m0], M)) rfl rfl rfl ?_
                    refine ml_call (a := [.ref m0, .int x1, .int i95_3]) (rest := [.ref m0, .long (Int32.toInt64 x1), .ref m0]) rfl (hR.okc rfl rfl rfl) rfl rfl (rm_wayAt hR hF hC (h0) (by omega) (by omega)) (fun v35 M36 h37 => ?_)
                    obtain ⟨rfl, h37⟩ := h37
                    rw [h37]
                    show ml _ _ _ (114, [(0, .ref m0), (1, .int x1), (3, .int i95_3)], [.int (waf f ca x1 i95_3), .ref m0, .long (Int32.toInt64 x1), .ref m0], M) _
                    refine ml_call (a := [.ref m0, .int (waf f ca x1 i95_3)]) (rest := [.long (Int32.toInt64 x1), .ref m0]) rfl (hR.okc rfl rfl rfl) rfl rfl (rm_b4 hR hF hC (hwb.1) (hwb.2) (by omega)) (fun v38 M39 h40 => ?_)
                    obtain ⟨rfl, h40⟩ := h40
                    rw [h40]
                    show ml _ _ _ (117, [(0, .ref m0), (1, .int x1), (3, .int i95_3)], [.int (B4 f ca (waf f ca x1 i95_3)), .long (Int32.toInt64 x1), .ref m0], M) _
                    refine ml_blk 2 (S' := (119, [(0, .ref m0), (1, .int x1), (3, .int i95_3)], [.long ((Int32.toInt64 x1) + (Int32.toInt64 (B4 f ca (waf f ca x1 i95_3)))), .ref m0], M)) rfl ?_
                    refine ml_call (a := [.ref m0, .long ((Int32.toInt64 x1) + (Int32.toInt64 (B4 f ca (waf f ca x1 i95_3))))]) (rest := []) rfl (hR.okc rfl rfl rfl) rfl rfl (rm_starts hR hC (hn) (hW) (by omega)) (fun v41 M42 h43 => ?_)
                    obtain ⟨⟨u44, rfl, z45, w46⟩, h43⟩ := h43
                    rw [h43]
                    show ml _ _ _ (122, [(0, .ref m0), (1, .int x1), (3, .int i95_3)], [.int u44], M) _
                    have hst := w46
                    refine ml_if (S1 := (127, [(0, .ref m0), (1, .int x1), (3, .int i95_3)], [], M)) (S2 := (125, [(0, .ref m0), (1, .int x1), (3, .int i95_3)], [], M)) rfl rfl rfl (fun c_122 => ?_) (fun c_122 => ?_)
                    · have c_122 : ¬ u44 = 0 := of_decide_eq_true c_122
                      refine ml_st (S' := (130, [(3, .int (i95_3 + 1)), (0, .ref m0), (1, .int x1)], [], M)) rfl rfl rfl ?_
                      refine ml_st (S' := (95, [(0, .ref m0), (1, .int x1), (3, .int (i95_3 + 1))], [], M)) rfl rfl rfl ?_
                      exact ih_95 (i95_3 + 1) (loop_inc (Int32.not_le.mp c_101) hn_95) (⟨by rw [inc_lt (Int32.not_le.mp c_101)]; omega, fun i a b => by rw [inc_lt (Int32.not_le.mp c_101)] at b; by_cases e : i.toInt = i95_3.toInt; (rw [Int32.toInt_inj.mp e]; exact to_in (by omega) (hst.resolve_left c_122)); exact hka i a (by omega)⟩)
                    · have c_122 : ¬ (¬ u44 = 0) := of_decide_eq_false c_122
                      refine ml_st (S' := (126, [(0, .ref m0), (1, .int x1), (3, .int i95_3)], [.int 0], M)) rfl rfl rfl ?_
                      exact ml_ret rfl (r_z (Or.inl rfl)) (⟨⟨_, rfl, Or.inl rfl, Or.inl rfl⟩, rfl⟩)
              exact L_95 _ 0 (Nat.le_refl _) (⟨by decide, fun i a b => absurd b (by have : (0 : Int32).toInt = 0 := rfl; omega)⟩)
            refine ml_if2 (S1 := (93, [(0, .ref m0), (1, .int x1)], [], M)) (S2 := (86, [(0, .ref m0), (1, .int x1), (2, .int (f1 f (ca + x1)))], [], M)) rfl rfl rfl (fun c_83 => ?_) (fun c_83 => ?_)
            · have c_83 : (f1 f (ca + x1)) = 170 := of_decide_eq_true c_83
              exact J_93  (Or.inl c_83)
            · have c_83 : ¬ ((f1 f (ca + x1)) = 170) := of_decide_eq_false c_83
              refine ml_blk 2 (S' := (90, [(0, .ref m0), (1, .int x1), (2, .int (f1 f (ca + x1)))], [.int 171, .int (f1 f (ca + x1))], M)) rfl ?_
              refine ml_if2 (S1 := (133, [], [], M)) (S2 := (93, [(0, .ref m0), (1, .int x1)], [], M)) rfl rfl rfl (fun c_90 => ?_) (fun c_90 => ?_)
              · have c_90 : ¬ (f1 f (ca + x1)) = 171 := of_decide_eq_true c_90
                refine ml_st (S' := (134, [], [.int 1], M)) rfl rfl rfl ?_
                exact ml_ret rfl (r_z (Or.inr rfl)) (⟨⟨_, rfl, Or.inr rfl, Or.inr (AIM.no (fun h => h.elim hj_20 (fun h => h.elim c_24 c_31)) (fun h => h.elim c_53 c_60) (fun h => h.elim c_83 c_90))⟩, rfl⟩)
              · have c_90 : ¬ (¬ (f1 f (ca + x1)) = 171) := of_decide_eq_false c_90
                exact J_93  (Or.inr (Decidable.not_not.mp c_90))
          · have c_60 : ¬ (¬ (f1 f (ca + x1)) = 201) := of_decide_eq_false c_60
            exact J_63  (Or.inr (Decidable.not_not.mp c_60))
      · have c_31 : ¬ (¬ (f1 f (ca + x1)) = 199) := of_decide_eq_false c_31
        exact J_34  (Or.inr (Or.inr (Decidable.not_not.mp c_31)))
  refine ml_if2 (S1 := (20, [(0, .ref m0), (1, .int x1), (2, .int (f1 f (ca + x1)))], [], M)) (S2 := (13, [(2, .int (f1 f (ca + x1))), (0, .ref m0), (1, .int x1)], [], M)) rfl rfl rfl (fun c_10 => ?_) (fun c_10 => ?_)
  · have c_10 : (f1 f (ca + x1)) < 153 := of_decide_eq_true c_10
    exact J_20  (fun h => by have := i_lt c_10; have : (153 : Int32).toInt = 153 := rfl; omega)
  · have c_10 : ¬ ((f1 f (ca + x1)) < 153) := of_decide_eq_false c_10
    refine ml_blk 2 (S' := (17, [(2, .int (f1 f (ca + x1))), (0, .ref m0), (1, .int x1)], [.int 168, .int (f1 f (ca + x1))], M)) rfl ?_
    refine ml_if2 (S1 := (34, [(0, .ref m0), (1, .int x1)], [], M)) (S2 := (20, [(0, .ref m0), (1, .int x1), (2, .int (f1 f (ca + x1)))], [], M)) rfl rfl rfl (fun c_17 => ?_) (fun c_17 => ?_)
    · have c_17 : (f1 f (ca + x1)) ≤ 168 := of_decide_eq_true c_17
      exact J_34  (Or.inl ⟨by have := i_nlt c_10; have : (153 : Int32).toInt = 153 := rfl; omega, by have := i_le c_17; have : (168 : Int32).toInt = 168 := rfl; omega⟩)
    · have c_17 : ¬ ((f1 f (ca + x1)) ≤ 168) := of_decide_eq_false c_17
      exact J_20  (fun h => by have := i_nle c_17; have : (168 : Int32).toInt = 168 := rfl; omega)
