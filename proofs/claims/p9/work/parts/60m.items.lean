/-! the reference: bytes, items, attributes (laid by wip/p2/c60.py) -/
set_option maxHeartbeats 2000000 in
theorem rm_u1 {g : xe_G}  {m0 : Nat} {q : Nat → Nat} {z : Nat × Nat} {I : rI} {R : rR} {M : mi_H} {x1 : Int32} {n : Nat} {f : Nat → Int32}  (hR : RS g m0 q z I R M) (hF : FK n f I R) (h0 : 0 ≤ x1.toInt) (h1 : x1.toInt < n) {d : Nat} (hd : 1 ≤ d) : mt (mT g) d 248 [.ref m0, .int x1] M (fun v M' => v = some (.int (f1 f x1)) ∧ M' = M) := by
  obtain ⟨d, rfl⟩ : ∃ e, d = e + 1 := ⟨d - 1, by omega⟩
  refine mt_in (b := mb_248 g) rfl rfl ?_
  show ml (mT g) d (mb_248 g).2 (0, [(0, .ref m0), (1, .int x1)], [], M) _
  refine ml_st (S' := (1, [(0, .ref m0), (1, .int x1)], [.ref m0], M)) rfl rfl rfl ?_
  refine rg_ref (S' := (4, [(0, .ref m0), (1, .int x1)], [.ref (q 12)], M)) rfl hR rfl rfl ?_
  refine ml_st (S' := (5, [(0, .ref m0), (1, .int x1)], [.ref m0, .ref (q 12)], M)) rfl rfl rfl ?_
  refine rg_int (S' := (8, [(0, .ref m0), (1, .int x1)], [.int 0, .ref (q 12)], M)) rfl hR rfl (hF.2.1) rfl ?_
  refine ml_blk 2 (S' := (10, [(0, .ref m0), (1, .int x1)], [.int (0 + x1), .ref (q 12)], M)) rfl ?_
  refine ra_ld (k := 12) (S' := (11, [(0, .ref m0), (1, .int x1)], [.int (f x1.toNatClampNeg)], M)) rfl hR rfl (hF.iin h0 h1) (hF.iat h0 h1) rfl ?_
  refine ml_blk 2 (S' := (15, [(0, .ref m0), (1, .int x1)], [.int ((f x1.toNatClampNeg) &&& 255)], M)) rfl ?_
  exact ml_ret rfl (rfl) (⟨rfl, rfl⟩)
set_option maxHeartbeats 2000000 in
theorem rm_u2 {g : xe_G}  {m0 : Nat} {q : Nat → Nat} {z : Nat × Nat} {I : rI} {R : rR} {M : mi_H} {x1 : Int32} {n : Nat} {f : Nat → Int32}  (hR : RS g m0 q z I R M) (hF : FK n f I R) (h0 : 0 ≤ x1.toInt) (h1 : x1.toInt + 2 ≤ n) {d : Nat} (hd : 2 ≤ d) : mt (mT g) d 249 [.ref m0, .int x1] M (fun v M' => v = some (.int (f2 f x1)) ∧ M' = M) := by
  obtain ⟨d, rfl⟩ : ∃ e, d = e + 1 := ⟨d - 1, by omega⟩
  refine mt_in (b := mb_249 g) rfl rfl ?_
  show ml (mT g) d (mb_249 g).2 (0, [(0, .ref m0), (1, .int x1)], [], M) _
  have hn := hF.1
  have e1 : (x1 + 1).toInt = x1.toInt + 1 := i_add (by have : (1 : Int32).toInt = 1 := rfl; omega) (by have : (1 : Int32).toInt = 1 := rfl; omega)
  refine ml_blk 2 (S' := (2, [(0, .ref m0), (1, .int x1)], [.int x1, .ref m0], M)) rfl ?_
  refine ml_call (a := [.ref m0, .int x1]) (rest := []) rfl (hR.okc rfl rfl rfl) rfl rfl (rm_u1 hR hF (h0) (by omega) (by omega)) (fun v11 M12 h13 => ?_)
  obtain ⟨rfl, h13⟩ := h13
  rw [h13]
  show ml _ _ _ (5, [(0, .ref m0), (1, .int x1)], [.int (f1 f x1)], M) _
  refine ml_blk 3 (S' := (9, [(0, .ref m0), (1, .int x1)], [.ref m0, .int ((f1 f x1) <<< (8 &&& 31))], M)) rfl ?_
  refine ml_blk 3 (S' := (12, [(0, .ref m0), (1, .int x1)], [.int (x1 + 1), .ref m0, .int ((f1 f x1) <<< (8 &&& 31))], M)) rfl ?_
  refine ml_call (a := [.ref m0, .int (x1 + 1)]) (rest := [.int ((f1 f x1) <<< (8 &&& 31))]) rfl (hR.okc rfl rfl rfl) rfl rfl (rm_u1 hR hF (by omega) (by omega) (by omega)) (fun v14 M15 h16 => ?_)
  obtain ⟨rfl, h16⟩ := h16
  rw [h16]
  show ml _ _ _ (15, [(0, .ref m0), (1, .int x1)], [.int (f1 f (x1 + 1)), .int ((f1 f x1) <<< (8 &&& 31))], M) _
  refine ml_st (S' := (16, [(0, .ref m0), (1, .int x1)], [.int (((f1 f x1) <<< (8 &&& 31)) ||| (f1 f (x1 + 1)))], M)) rfl rfl rfl ?_
  exact ml_ret rfl (rfl) (⟨rfl, rfl⟩)
set_option maxHeartbeats 2000000 in
theorem rm_u4 {g : xe_G}  {m0 : Nat} {q : Nat → Nat} {z : Nat × Nat} {I : rI} {R : rR} {M : mi_H} {x1 : Int32} {n : Nat} {f : Nat → Int32}  (hR : RS g m0 q z I R M) (hF : FK n f I R) (h0 : 0 ≤ x1.toInt) (h1 : x1.toInt + 4 ≤ n) {d : Nat} (hd : 3 ≤ d) : mt (mT g) d 250 [.ref m0, .int x1] M (fun v M' => v = some (.long (f4 f x1)) ∧ M' = M) := by
  obtain ⟨d, rfl⟩ : ∃ e, d = e + 1 := ⟨d - 1, by omega⟩
  refine mt_in (b := mb_250 g) rfl rfl ?_
  show ml (mT g) d (mb_250 g).2 (0, [(0, .ref m0), (1, .int x1)], [], M) _
  have hn := hF.1
  have e2 : (x1 + 2).toInt = x1.toInt + 2 := i_add (by have : (2 : Int32).toInt = 2 := rfl; omega) (by have : (2 : Int32).toInt = 2 := rfl; omega)
  refine ml_blk 2 (S' := (2, [(0, .ref m0), (1, .int x1)], [.int x1, .ref m0], M)) rfl ?_
  refine ml_call (a := [.ref m0, .int x1]) (rest := []) rfl (hR.okc rfl rfl rfl) rfl rfl (rm_u2 hR hF (h0) (by omega) (by omega)) (fun v11 M12 h13 => ?_)
  obtain ⟨rfl, h13⟩ := h13
  rw [h13]
  show ml _ _ _ (5, [(0, .ref m0), (1, .int x1)], [.int (f2 f x1)], M) _
  refine ml_blk 3 (S' := (9, [(0, .ref m0), (1, .int x1)], [.long ((Int32.toInt64 (f2 f x1)) <<< (Int32.toInt64 16 &&& 63))], M)) rfl ?_
  refine ml_blk 3 (S' := (12, [(0, .ref m0), (1, .int x1)], [.int 2, .int x1, .ref m0, .long ((Int32.toInt64 (f2 f x1)) <<< (Int32.toInt64 16 &&& 63))], M)) rfl ?_
  refine ml_st (S' := (13, [(0, .ref m0), (1, .int x1)], [.int (x1 + 2), .ref m0, .long ((Int32.toInt64 (f2 f x1)) <<< (Int32.toInt64 16 &&& 63))], M)) rfl rfl rfl ?_
  refine ml_call (a := [.ref m0, .int (x1 + 2)]) (rest := [.long ((Int32.toInt64 (f2 f x1)) <<< (Int32.toInt64 16 &&& 63))]) rfl (hR.okc rfl rfl rfl) rfl rfl (rm_u2 hR hF (by omega) (by omega) (by omega)) (fun v14 M15 h16 => ?_)
  obtain ⟨rfl, h16⟩ := h16
  rw [h16]
  show ml _ _ _ (16, [(0, .ref m0), (1, .int x1)], [.int (f2 f (x1 + 2)), .long ((Int32.toInt64 (f2 f x1)) <<< (Int32.toInt64 16 &&& 63))], M) _
  refine ml_blk 2 (S' := (18, [(0, .ref m0), (1, .int x1)], [.long (((Int32.toInt64 (f2 f x1)) <<< (Int32.toInt64 16 &&& 63)) ||| (Int32.toInt64 (f2 f (x1 + 2))))], M)) rfl ?_
  exact ml_ret rfl (rfl) (⟨rfl, rfl⟩)
set_option maxHeartbeats 2000000 in
theorem rm_wrong {g : xe_G}  {m0 : Nat} {q : Nat → Nat} {z : Nat × Nat} {I : rI} {R : rR} {M : mi_H} {x1 x2 : Int32}  (hR : RS g m0 q z I R M) {d : Nat} (hd : 1 ≤ d) : mt (mT g) d 256 [.ref m0, .int x1, .int x2] M (fun v M' => ∃ (x : Int32) (I' : rI) (R' : rR), v = some (.int x) ∧ RS g m0 q z I' R' M' ∧ eqI [47, 48] I I' ∧ eqR [] R R' ∧ (x = 0 ∨ x = 1) ∧ x = 0) := by
  obtain ⟨d, rfl⟩ : ∃ e, d = e + 1 := ⟨d - 1, by omega⟩
  refine mt_in (b := mb_256 g) rfl rfl ?_
  show ml (mT g) d (mb_256 g).2 (0, [(0, .ref m0), (1, .int x1), (2, .int x2)], [], M) _
  refine ml_blk 2 (S' := (2, [(0, .ref m0), (1, .int x1), (2, .int x2)], [.int x1, .ref m0], M)) rfl ?_
  refine rp_int rfl hR rfl (fun M11 I12 hR13 e14 f15 => ?_)
  show ml _ _ _ (5, [(0, .ref m0), (1, .int x1), (2, .int x2)], [], M11) _
  refine ml_blk 2 (S' := (7, [(0, .ref m0), (1, .int x1), (2, .int x2)], [.int x2, .ref m0], M11)) rfl ?_
  refine rp_int rfl hR13 rfl (fun M16 I17 hR18 e19 f20 => ?_)
  show ml _ _ _ (10, [(0, .ref m0), (1, .int x1), (2, .int x2)], [], M16) _
  refine ml_st (S' := (11, [(0, .ref m0), (1, .int x1), (2, .int x2)], [.int 0], M16)) rfl rfl rfl ?_
  exact ml_ret rfl (r_z (Or.inl rfl)) (⟨_, _, _, rfl, hR18, ((eqI.rf.put f15 (by decide)).put f20 (by decide)), eqR.rf, Or.inl rfl, rfl⟩)
theorem item_le {p : Int32} {x : Int64} {n : Nat} (hn : n ≤ 65540) (h0 : 0 ≤ p.toInt) (h1 : p.toInt ≤ n) (hx : 0 ≤ x.toInt) (hx1 : x.toInt ≤ 8589934592) (h : lg_cmp (Int32.toInt64 p + x) (Int32.toInt64 (nI n)) ≤ 0) : p.toInt + x.toInt ≤ n := by
  have h2 := lc_le h
  rw [l_add (by rw [l_of]; omega) (by rw [l_of]; omega), l_of, l_of, nI_val (by omega)] at h2
  exact h2

set_option maxHeartbeats 2000000 in
theorem rm_item {g : xe_G}  {m0 : Nat} {q : Nat → Nat} {z : Nat × Nat} {I : rI} {R : rR} {M : mi_H} {p : Int32} {x1 : Int64} {n : Nat} {f : Nat → Int32}  (hR : RS g m0 q z I R M) (hk50 : I 50 = some p) (hF : FK n f I R) (h0 : 0 ≤ p.toInt) (h1 : p.toInt ≤ n) (hx : 0 ≤ x1.toInt) (hx1 : x1.toInt ≤ 8589934592) {d : Nat} (hd : 2 ≤ d) : mt (mT g) d 219 [.ref m0, .long x1] M (fun v M' => ∃ (x : Int32) (I' : rI) (R' : rR), v = some (.int x) ∧ RS g m0 q z I' R' M' ∧ eqI [47, 48] I I' ∧ eqR [] R R' ∧ (x = 0 ∨ x = 1) ∧ (x = 0 ∨ p.toInt + x1.toInt ≤ n)) := by
  obtain ⟨d, rfl⟩ : ∃ e, d = e + 1 := ⟨d - 1, by omega⟩
  refine mt_in (b := mb_219 g) rfl rfl ?_
  show ml (mT g) d (mb_219 g).2 (0, [(0, .ref m0), (1, .long x1)], [], M) _
  refine ml_st (S' := (1, [(0, .ref m0), (1, .long x1)], [.ref m0], M)) rfl rfl rfl ?_
  refine rg_int (S' := (4, [(0, .ref m0), (1, .long x1)], [.int p], M)) rfl hR rfl (hk50) rfl ?_
  refine ml_blk 3 (S' := (7, [(0, .ref m0), (1, .long x1)], [.long ((Int32.toInt64 p) + x1)], M)) rfl ?_
  refine ml_st (S' := (8, [(0, .ref m0), (1, .long x1)], [.ref m0, .long ((Int32.toInt64 p) + x1)], M)) rfl rfl rfl ?_
  refine rg_int (S' := (11, [(0, .ref m0), (1, .long x1)], [.int (nI n), .long ((Int32.toInt64 p) + x1)], M)) rfl hR rfl (hF.2.2.1) rfl ?_
  refine ml_blk 2 (S' := (13, [(0, .ref m0), (1, .long x1)], [.int (lg_cmp ((Int32.toInt64 p) + x1) (Int32.toInt64 (nI n)))], M)) rfl ?_
  refine ml_if (S1 := (28, [], [], M)) (S2 := (16, [(0, .ref m0), (1, .long x1)], [], M)) rfl rfl rfl (fun c_13 => ?_) (fun c_13 => ?_)
  · have c_13 : (lg_cmp ((Int32.toInt64 p) + x1) (Int32.toInt64 (nI n))) ≤ 0 := of_decide_eq_true c_13
    refine ml_st (S' := (29, [], [.int 1], M)) rfl rfl rfl ?_
    refine ml_st (S' := (33, [], [.int 1], M)) rfl rfl rfl ?_
    exact ml_ret rfl (r_z (Or.inr rfl)) (⟨_, _, _, rfl, hR, eqI.rf, eqR.rf, Or.inr rfl, Or.inr (item_le hF.1 h0 h1 hx hx1 c_13)⟩)
  · have c_13 : ¬ ((lg_cmp ((Int32.toInt64 p) + x1) (Int32.toInt64 (nI n))) ≤ 0) := of_decide_eq_false c_13
    refine ml_blk 3 (S' := (19, [(0, .ref m0), (1, .long x1)], [.ref m0, .int 1, .ref m0], M)) rfl ?_
    refine rg_int (S' := (22, [(0, .ref m0), (1, .long x1)], [.int p, .int 1, .ref m0], M)) rfl hR rfl (hk50) rfl ?_
    refine ml_call (a := [.ref m0, .int 1, .int p]) (rest := []) rfl (hR.okc rfl rfl rfl) rfl rfl (rm_wrong hR (by omega)) (fun v11 M12 h13 => ?_)
    obtain ⟨u19, I14, R15, rfl, hR16, hI17, hV18, z20, w21⟩ := h13
    show ml _ _ _ (25, [(0, .ref m0), (1, .long x1)], [.int u19], M12) _
    refine ml_if (S1 := (32, [(0, .ref m0), (1, .long x1)], [], M12)) (S2 := (28, [], [], M12)) rfl rfl rfl (fun c_25 => ?_) (fun c_25 => ?_)
    · have c_25 : u19 = 0 := of_decide_eq_true c_25
      refine ml_st (S' := (33, [], [.int 0], M12)) rfl rfl rfl ?_
      exact ml_ret rfl (r_z (Or.inl rfl)) (⟨_, _, _, rfl, hR16, (eqI.rf.tr hI17 (by decide)), (eqR.rf.tr hV18 (by decide)), Or.inl rfl, Or.inl rfl⟩)
    · have c_25 : ¬ (u19 = 0) := of_decide_eq_false c_25
      refine ml_st (S' := (29, [], [.int 1], M12)) rfl rfl rfl ?_
      refine ml_st (S' := (33, [], [.int 1], M12)) rfl rfl rfl ?_
      exact ml_ret rfl (r_z (Or.inr rfl)) (⟨_, _, _, rfl, hR16, (eqI.rf.tr hI17 (by decide)), (eqR.rf.tr hV18 (by decide)), Or.inr rfl, absurd w21 c_25⟩)
theorem ra1_of {f : Nat → Int32} {n : Nat} {a : Int32} (hn : n ≤ 65540) (h0 : 0 ≤ a.toInt) (h2 : a.toInt + 6 ≤ n) (h3 : a.toInt + 6 + (f4 f (a + 2)).toInt ≤ n) : RA1 f n a (a + 2 + 4 + Int64.toInt32 (f4 f (a + 2))) ∧ 0 ≤ (a + 2 + 4 + Int64.toInt32 (f4 f (a + 2))).toInt ∧ (a + 2 + 4 + Int64.toInt32 (f4 f (a + 2))).toInt ≤ n := by
  have hp := f4_pos (f := f) (x := a + 2)
  have e2 : (2 : Int32).toInt = 2 := rfl
  have e4 : (4 : Int32).toInt = 4 := rfl
  have d2 : (a + 2).toInt = a.toInt + 2 := by rw [i_add (by omega) (by omega), e2]
  have d4 : (a + 2 + 4).toInt = a.toInt + 6 := by rw [i_add (by omega) (by omega), d2, e4]; omega
  have di : (Int64.toInt32 (f4 f (a + 2))).toInt = (f4 f (a + 2)).toInt := i_of (by omega) (by omega)
  have dl : (a + 2 + 4 + Int64.toInt32 (f4 f (a + 2))).toInt = a.toInt + 6 + (f4 f (a + 2)).toInt := by rw [i_add (by omega) (by omega), d4, di]
  exact ⟨⟨h0, h2, h3, dl⟩, by omega, by omega⟩
theorem itr_end {P : Int32 → Int32 → Prop} {i N a b : Int32} (h : itr P i.toInt.toNat a b) (h1 : i.toInt ≤ N.toInt) (h2 : N ≤ i) : itr P N.toInt.toNat a b := by
  have h3 := i_le h2
  rwa [show N.toInt.toNat = i.toInt.toNat by omega]
theorem itr_inc {P : Int32 → Int32 → Prop} {i N a b c : Int32} (h0 : 0 ≤ i.toInt) (hc : ¬ N ≤ i) (h : itr P i.toInt.toNat a b) (h1 : P b c) : itr P (i + 1).toInt.toNat a c := by
  rw [inc_lt (Int32.not_le.mp hc), show (i.toInt + 1).toNat = i.toInt.toNat + 1 by omega]
  exact ⟨b, h, h1⟩

set_option maxHeartbeats 2000000 in
theorem rm_attributes {g : xe_G}  {m0 : Nat} {q : Nat → Nat} {z : Nat × Nat} {I : rI} {R : rR} {M : mi_H} {p : Int32} {n : Nat} {f : Nat → Int32}  (hR : RS g m0 q z I R M) (hk50 : I 50 = some p) (hF : FK n f I R) (h0 : 0 ≤ p.toInt) (h1 : p.toInt ≤ n) {d : Nat} (hd : 4 ≤ d) : mt (mT g) d 178 [.ref m0] M (fun v M' => ∃ (x : Int32) (I' : rI) (R' : rR), v = some (.int x) ∧ RS g m0 q z I' R' M' ∧ eqI [47, 48, 50] I I' ∧ eqR [] R R' ∧ (x = 0 ∨ x = 1) ∧ (x = 0 ∨ ∃ p1, I' 50 = some p1 ∧ AT f n p p1)) := by
  obtain ⟨d, rfl⟩ : ∃ e, d = e + 1 := ⟨d - 1, by omega⟩
  refine mt_in (b := mb_178 g) rfl rfl ?_
  show ml (mT g) d (mb_178 g).2 (0, [(0, .ref m0)], [], M) _
  have hn := hF.1
  have l2 : (2 : Int64).toInt = 2 := rfl
  have l4 : (4 : Int64).toInt = 4 := rfl
  refine ml_blk 2 (S' := (4, [(0, .ref m0)], [.long 2, .ref m0], M)) rfl ?_
  refine ml_call (a := [.ref m0, .long 2]) (rest := []) rfl (hR.okc rfl rfl rfl) rfl rfl (rm_item hR (hk50) hF (h0) (h1) (by decide) (by decide) (by omega)) (fun v11 M12 h13 => ?_)
  obtain ⟨u19, I14, R15, rfl, hR16, hI17, hV18, z20, w21⟩ := h13
  show ml _ _ _ (7, [(0, .ref m0)], [.int u19], M12) _
  refine ml_if (S1 := (12, [(0, .ref m0)], [], M12)) (S2 := (10, [(0, .ref m0)], [], M12)) rfl rfl rfl (fun c_7 => ?_) (fun c_7 => ?_)
  · have c_7 : ¬ u19 = 0 := of_decide_eq_true c_7
    have ha := w21.resolve_left c_7
    have ep2 : (p + 2).toInt = p.toInt + 2 := i_add (by have : (2 : Int32).toInt = 2 := rfl; omega) (by have : (2 : Int32).toInt = 2 := rfl; omega)
    refine ml_blk 2 (S' := (14, [(0, .ref m0)], [.ref m0, .ref m0], M12)) rfl ?_
    refine rg_int (S' := (17, [(0, .ref m0)], [.int p, .ref m0], M12)) rfl hR16 rfl ((hI17 50 (by decide)).trans (hk50)) rfl ?_
    have hF22 : FK n f I14 R15 := (hF.mono (cIx hI17 (by decide)) (cRx hV18 (by decide)))
    refine ml_call (a := [.ref m0, .int p]) (rest := []) rfl (hR16.okc rfl rfl rfl) rfl rfl (rm_u2 hR16 hF22 (h0) (by omega) (by omega)) (fun v23 M24 h25 => ?_)
    obtain ⟨rfl, h25⟩ := h25
    rw [h25]
    show ml _ _ _ (20, [(0, .ref m0)], [.int (f2 f p)], M12) _
    refine ml_st (S' := (21, [(1, .int (f2 f p)), (0, .ref m0)], [], M12)) rfl rfl rfl ?_
    refine ml_blk 2 (S' := (23, [(1, .int (f2 f p)), (0, .ref m0)], [.ref m0, .ref m0], M12)) rfl ?_
    refine rg_int (S' := (26, [(1, .int (f2 f p)), (0, .ref m0)], [.int p, .ref m0], M12)) rfl hR16 rfl ((hI17 50 (by decide)).trans (hk50)) rfl ?_
    refine ml_blk 2 (S' := (28, [(1, .int (f2 f p)), (0, .ref m0)], [.int (p + 2), .ref m0], M12)) rfl ?_
    refine rp_int rfl hR16 rfl (fun M26 I27 hR28 e29 f30 => ?_)
    show ml _ _ _ (31, [(1, .int (f2 f p)), (0, .ref m0)], [], M26) _
    refine ml_st (S' := (32, [(1, .int (f2 f p)), (0, .ref m0)], [.int 0], M26)) rfl rfl rfl ?_
    refine ml_st (S' := (33, [(0, .ref m0), (1, .int (f2 f p)), (2, .int 0)], [], M26)) rfl rfl rfl ?_
    have L_33 : ∀ (n_33 : Nat) (i33_2 : Int32) (pa : Int32) (M_33 : mi_H) (I_33 : rI) (R_33 : rR), (2147483648 - i33_2.toInt).toNat ≤ n_33 → RS g m0 q z I_33 R_33 M_33 → eqI [47, 48, 50] I27 I_33 → eqR [] R15 R_33 → (I_33 50 = some pa ∧ 0 ≤ pa.toInt ∧ pa.toInt ≤ n ∧ 0 ≤ i33_2.toInt ∧ i33_2.toInt ≤ (f2 f p).toInt ∧ itr (RA1 f n) i33_2.toInt.toNat (p + 2) pa) → ml (mT g) d (mb_178 g).2 (33, [(0, .ref m0), (1, .int (f2 f p)), (2, .int i33_2)], [], M_33) (fun v M' => ∃ (x : Int32) (I' : rI) (R' : rR), v = some (.int x) ∧ RS g m0 q z I' R' M' ∧ eqI [47, 48, 50] I I' ∧ eqR [] R R' ∧ (x = 0 ∨ x = 1) ∧ (x = 0 ∨ ∃ p1, I' 50 = some p1 ∧ AT f n p p1)) := by
      intro n_33
      induction n_33 with
      | zero => intro i33_2 pa M_33 I_33 R_33 hn; exact (loop_zero hn).elim
      | succ n_33 ih_33 =>
        intro i33_2 pa M_33 I_33 R_33 hn_33 hR_33 hI_33 hV_33 hi_33
        obtain ⟨hi50, hpa0, hpa1, hk0, hk1, hit⟩ := hi_33
        refine ml_blk 2 (S' := (35, [(0, .ref m0), (1, .int (f2 f p)), (2, .int i33_2)], [.int (f2 f p), .int i33_2], M_33)) rfl ?_
        refine ml_if2 (S1 := (118, [(0, .ref m0), (1, .int (f2 f p)), (2, .int i33_2)], [], M_33)) (S2 := (38, [(0, .ref m0), (1, .int (f2 f p)), (2, .int i33_2)], [], M_33)) rfl rfl rfl (fun c_35 => ?_) (fun c_35 => ?_)
        · have c_35 : (f2 f p) ≤ i33_2 := of_decide_eq_true c_35
          refine ml_st (S' := (119, [(0, .ref m0), (1, .int (f2 f p)), (2, .int i33_2)], [.int 1], M_33)) rfl rfl rfl ?_
          exact ml_ret rfl (r_z (Or.inr rfl)) (⟨_, _, _, rfl, hR_33, (((eqI.rf.tr hI17 (by decide)).put f30 (by decide)).tr hI_33 (by decide)), ((eqR.rf.tr hV18 (by decide)).tr hV_33 (by decide)), Or.inr rfl, Or.inr ⟨pa, hi50, h0, by omega, itr_end hit hk1 c_35, hpa1⟩⟩)
        · have c_35 : ¬ ((f2 f p) ≤ i33_2) := of_decide_eq_false c_35
          refine ml_blk 2 (S' := (42, [(0, .ref m0), (1, .int (f2 f p)), (2, .int i33_2)], [.long 2, .ref m0], M_33)) rfl ?_
          have hF31 : FK n f I_33 R_33 := ((hF22.mono (pIx f30 (by decide)) (fun _ _ => rfl)).mono (cIx hI_33 (by decide)) (cRx hV_33 (by decide)))
          refine ml_call (a := [.ref m0, .long 2]) (rest := []) rfl (hR_33.okc rfl rfl rfl) rfl rfl (rm_item hR_33 (hi50) hF31 (hpa0) (hpa1) (by decide) (by decide) (by omega)) (fun v32 M33 h34 => ?_)
          obtain ⟨u40, I35, R36, rfl, hR37, hI38, hV39, z41, w42⟩ := h34
          show ml _ _ _ (45, [(0, .ref m0), (1, .int (f2 f p)), (2, .int i33_2)], [.int u40], M33) _
          refine ml_if (S1 := (50, [(0, .ref m0), (1, .int (f2 f p)), (2, .int i33_2)], [], M33)) (S2 := (48, [(0, .ref m0), (1, .int (f2 f p)), (2, .int i33_2)], [], M33)) rfl rfl rfl (fun c_45 => ?_) (fun c_45 => ?_)
          · have c_45 : ¬ u40 = 0 := of_decide_eq_true c_45
            have hb := w42.resolve_left c_45
            have d2 : (pa + 2).toInt = pa.toInt + 2 := i_add (by have : (2 : Int32).toInt = 2 := rfl; omega) (by have : (2 : Int32).toInt = 2 := rfl; omega)
            refine ml_blk 2 (S' := (52, [(0, .ref m0), (1, .int (f2 f p)), (2, .int i33_2)], [.ref m0, .ref m0], M33)) rfl ?_
            refine rg_int (S' := (55, [(0, .ref m0), (1, .int (f2 f p)), (2, .int i33_2)], [.int pa, .ref m0], M33)) rfl hR37 rfl ((hI38 50 (by decide)).trans (hi50)) rfl ?_
            refine ml_blk 2 (S' := (57, [(0, .ref m0), (1, .int (f2 f p)), (2, .int i33_2)], [.int (pa + 2), .ref m0], M33)) rfl ?_
            refine rp_int rfl hR37 rfl (fun M43 I44 hR45 e46 f47 => ?_)
            show ml _ _ _ (60, [(0, .ref m0), (1, .int (f2 f p)), (2, .int i33_2)], [], M43) _
            refine ml_blk 2 (S' := (64, [(0, .ref m0), (1, .int (f2 f p)), (2, .int i33_2)], [.long 4, .ref m0], M43)) rfl ?_
            have hF48 : FK n f I44 R36 := ((hF31.mono (cIx hI38 (by decide)) (cRx hV39 (by decide))).mono (pIx f47 (by decide)) (fun _ _ => rfl))
            refine ml_call (a := [.ref m0, .long 4]) (rest := []) rfl (hR45.okc rfl rfl rfl) rfl rfl (rm_item hR45 (e46) hF48 (by omega) (by omega) (by decide) (by decide) (by omega)) (fun v49 M50 h51 => ?_)
            obtain ⟨u57, I52, R53, rfl, hR54, hI55, hV56, z58, w59⟩ := h51
            show ml _ _ _ (67, [(0, .ref m0), (1, .int (f2 f p)), (2, .int i33_2)], [.int u57], M50) _
            refine ml_if (S1 := (72, [(0, .ref m0), (1, .int (f2 f p)), (2, .int i33_2)], [], M50)) (S2 := (70, [(0, .ref m0), (1, .int (f2 f p)), (2, .int i33_2)], [], M50)) rfl rfl rfl (fun c_67 => ?_) (fun c_67 => ?_)
            · have c_67 : ¬ u57 = 0 := of_decide_eq_true c_67
              have hc := w59.resolve_left c_67
              have d4 : (pa + 2 + 4).toInt = pa.toInt + 6 := by rw [i_add (by have : (4 : Int32).toInt = 4 := rfl; omega) (by have : (4 : Int32).toInt = 4 := rfl; omega), d2]; have : (4 : Int32).toInt = 4 := rfl; omega
              refine ml_blk 2 (S' := (74, [(0, .ref m0), (1, .int (f2 f p)), (2, .int i33_2)], [.ref m0, .ref m0], M50)) rfl ?_
              refine rg_int (S' := (77, [(0, .ref m0), (1, .int (f2 f p)), (2, .int i33_2)], [.int (pa + 2), .ref m0], M50)) rfl hR54 rfl ((hI55 50 (by decide)).trans (e46)) rfl ?_
              have hF60 : FK n f I52 R53 := (hF48.mono (cIx hI55 (by decide)) (cRx hV56 (by decide)))
              refine ml_call (a := [.ref m0, .int (pa + 2)]) (rest := []) rfl (hR54.okc rfl rfl rfl) rfl rfl (rm_u4 hR54 hF60 (by omega) (by omega) (by omega)) (fun v61 M62 h63 => ?_)
              obtain ⟨rfl, h63⟩ := h63
              rw [h63]
              show ml _ _ _ (80, [(0, .ref m0), (1, .int (f2 f p)), (2, .int i33_2)], [.long (f4 f (pa + 2))], M50) _
              refine ml_st (S' := (81, [(3, .long (f4 f (pa + 2))), (0, .ref m0), (1, .int (f2 f p)), (2, .int i33_2)], [], M50)) rfl rfl rfl ?_
              refine ml_blk 2 (S' := (83, [(3, .long (f4 f (pa + 2))), (0, .ref m0), (1, .int (f2 f p)), (2, .int i33_2)], [.ref m0, .ref m0], M50)) rfl ?_
              refine rg_int (S' := (86, [(3, .long (f4 f (pa + 2))), (0, .ref m0), (1, .int (f2 f p)), (2, .int i33_2)], [.int (pa + 2), .ref m0], M50)) rfl hR54 rfl ((hI55 50 (by decide)).trans (e46)) rfl ?_
              refine ml_blk 2 (S' := (88, [(3, .long (f4 f (pa + 2))), (0, .ref m0), (1, .int (f2 f p)), (2, .int i33_2)], [.int ((pa + 2) + 4), .ref m0], M50)) rfl ?_
              refine rp_int rfl hR54 rfl (fun M64 I65 hR66 e67 f68 => ?_)
              show ml _ _ _ (91, [(3, .long (f4 f (pa + 2))), (0, .ref m0), (1, .int (f2 f p)), (2, .int i33_2)], [], M64) _
              refine ml_blk 2 (S' := (93, [(3, .long (f4 f (pa + 2))), (0, .ref m0), (1, .int (f2 f p)), (2, .int i33_2)], [.long (f4 f (pa + 2)), .ref m0], M64)) rfl ?_
              have hF69 : FK n f I65 R53 := (hF60.mono (pIx f68 (by decide)) (fun _ _ => rfl))
              refine ml_call (a := [.ref m0, .long (f4 f (pa + 2))]) (rest := []) rfl (hR66.okc rfl rfl rfl) rfl rfl (rm_item hR66 (e67) hF69 (by omega) (by omega) (f4_pos) (by have := f4_le (f := f) (x := pa + 2); omega) (by omega)) (fun v70 M71 h72 => ?_)
              obtain ⟨u78, I73, R74, rfl, hR75, hI76, hV77, z79, w80⟩ := h72
              show ml _ _ _ (96, [(3, .long (f4 f (pa + 2))), (0, .ref m0), (1, .int (f2 f p)), (2, .int i33_2)], [.int u78], M71) _
              refine ml_if (S1 := (101, [(3, .long (f4 f (pa + 2))), (0, .ref m0), (1, .int (f2 f p)), (2, .int i33_2)], [], M71)) (S2 := (99, [(3, .long (f4 f (pa + 2))), (0, .ref m0), (1, .int (f2 f p)), (2, .int i33_2)], [], M71)) rfl rfl rfl (fun c_96 => ?_) (fun c_96 => ?_)
              · have c_96 : ¬ u78 = 0 := of_decide_eq_true c_96
                have hd9 := w80.resolve_left c_96
                have hra := ra1_of (f := f) hn hpa0 (by omega) (by omega)
                refine ml_blk 2 (S' := (103, [(3, .long (f4 f (pa + 2))), (0, .ref m0), (1, .int (f2 f p)), (2, .int i33_2)], [.ref m0, .ref m0], M71)) rfl ?_
                refine rg_int (S' := (106, [(3, .long (f4 f (pa + 2))), (0, .ref m0), (1, .int (f2 f p)), (2, .int i33_2)], [.int ((pa + 2) + 4), .ref m0], M71)) rfl hR75 rfl ((hI76 50 (by decide)).trans (e67)) rfl ?_
                refine ml_blk 3 (S' := (109, [(3, .long (f4 f (pa + 2))), (0, .ref m0), (1, .int (f2 f p)), (2, .int i33_2)], [.int (((pa + 2) + 4) + (Int64.toInt32 (f4 f (pa + 2)))), .ref m0], M71)) rfl ?_
                refine rp_int rfl hR75 rfl (fun M81 I82 hR83 e84 f85 => ?_)
                show ml _ _ _ (112, [(3, .long (f4 f (pa + 2))), (0, .ref m0), (1, .int (f2 f p)), (2, .int i33_2)], [], M81) _
                refine ml_st (S' := (115, [(2, .int (i33_2 + 1)), (3, .long (f4 f (pa + 2))), (0, .ref m0), (1, .int (f2 f p))], [], M81)) rfl rfl rfl ?_
                refine ml_st (S' := (33, [(0, .ref m0), (1, .int (f2 f p)), (2, .int (i33_2 + 1))], [], M81)) rfl rfl rfl ?_
                exact ih_33 (i33_2 + 1) (((pa + 2) + 4) + (Int64.toInt32 (f4 f (pa + 2)))) _ _ _ (loop_inc (Int32.not_le.mp c_35) hn_33) hR83 (((((((eqI.rf.tr hI_33 (by decide)).tr hI38 (by decide)).put f47 (by decide)).tr hI55 (by decide)).put f68 (by decide)).tr hI76 (by decide)).put f85 (by decide)) ((((eqR.rf.tr hV_33 (by decide)).tr hV39 (by decide)).tr hV56 (by decide)).tr hV77 (by decide)) (⟨e84, hra.2.1, hra.2.2, by rw [inc_lt (Int32.not_le.mp c_35)]; omega, by rw [inc_lt (Int32.not_le.mp c_35)]; have := i_nle c_35; omega, itr_inc hk0 c_35 hit hra.1⟩)
              · have c_96 : ¬ (¬ u78 = 0) := of_decide_eq_false c_96
                refine ml_st (S' := (100, [(3, .long (f4 f (pa + 2))), (0, .ref m0), (1, .int (f2 f p)), (2, .int i33_2)], [.int 0], M71)) rfl rfl rfl ?_
                exact ml_ret rfl (r_z (Or.inl rfl)) (⟨_, _, _, rfl, hR75, ((((((((eqI.rf.tr hI17 (by decide)).put f30 (by decide)).tr hI_33 (by decide)).tr hI38 (by decide)).put f47 (by decide)).tr hI55 (by decide)).put f68 (by decide)).tr hI76 (by decide)), (((((eqR.rf.tr hV18 (by decide)).tr hV_33 (by decide)).tr hV39 (by decide)).tr hV56 (by decide)).tr hV77 (by decide)), Or.inl rfl, Or.inl rfl⟩)
            · have c_67 : ¬ (¬ u57 = 0) := of_decide_eq_false c_67
              refine ml_st (S' := (71, [(0, .ref m0), (1, .int (f2 f p)), (2, .int i33_2)], [.int 0], M50)) rfl rfl rfl ?_
              exact ml_ret rfl (r_z (Or.inl rfl)) (⟨_, _, _, rfl, hR54, ((((((eqI.rf.tr hI17 (by decide)).put f30 (by decide)).tr hI_33 (by decide)).tr hI38 (by decide)).put f47 (by decide)).tr hI55 (by decide)), ((((eqR.rf.tr hV18 (by decide)).tr hV_33 (by decide)).tr hV39 (by decide)).tr hV56 (by decide)), Or.inl rfl, Or.inl rfl⟩)
          · have c_45 : ¬ (¬ u40 = 0) := of_decide_eq_false c_45
            refine ml_st (S' := (49, [(0, .ref m0), (1, .int (f2 f p)), (2, .int i33_2)], [.int 0], M33)) rfl rfl rfl ?_
            exact ml_ret rfl (r_z (Or.inl rfl)) (⟨_, _, _, rfl, hR37, ((((eqI.rf.tr hI17 (by decide)).put f30 (by decide)).tr hI_33 (by decide)).tr hI38 (by decide)), (((eqR.rf.tr hV18 (by decide)).tr hV_33 (by decide)).tr hV39 (by decide)), Or.inl rfl, Or.inl rfl⟩)
    exact L_33 _ 0 (p + 2) _ _ _ (Nat.le_refl _) hR28 eqI.rf eqR.rf (⟨e29, by omega, by omega, by decide, by show (0 : Int) ≤ _; exact f2_pos, rfl⟩)
  · have c_7 : ¬ (¬ u19 = 0) := of_decide_eq_false c_7
    refine ml_st (S' := (11, [(0, .ref m0)], [.int 0], M12)) rfl rfl rfl ?_
    exact ml_ret rfl (r_z (Or.inl rfl)) (⟨_, _, _, rfl, hR16, (eqI.rf.tr hI17 (by decide)), (eqR.rf.tr hV18 (by decide)), Or.inl rfl, Or.inl rfl⟩)
theorem RA1.ge {f : Nat → Int32} {n : Nat} (a b : Int32) (h : RA1 f n a b) : a.toInt + 6 ≤ b.toInt := by
  have := f4_pos (f := f) (x := a + 2)
  have := h.2.2.2
  omega
theorem at_ge {f : Nat → Int32} {n : Nat} {a b : Int32} (hn : n ≤ 65540) (h : AT f n a b) : a.toInt + 2 ≤ b.toInt ∧ b.toInt ≤ n := by
  obtain ⟨h0, h1, h2, h3⟩ := h
  have h4 := itr.ge (w := 0) (fun a b h => by have := RA1.ge a b h; omega) h2
  have e : (2 : Int32).toInt = 2 := rfl
  rw [i_add (by omega) (by omega)] at h4
  exact ⟨by omega, h3⟩

set_option maxHeartbeats 2000000 in
theorem rm_members {g : xe_G}  {m0 : Nat} {q : Nat → Nat} {z : Nat × Nat} {I : rI} {R : rR} {M : mi_H} {p : Int32} {n : Nat} {f : Nat → Int32}  (hR : RS g m0 q z I R M) (hk50 : I 50 = some p) (hF : FK n f I R) (h0 : 0 ≤ p.toInt) (h1 : p.toInt ≤ n) {d : Nat} (hd : 5 ≤ d) : mt (mT g) d 224 [.ref m0] M (fun v M' => ∃ (x : Int32) (I' : rI) (R' : rR), v = some (.int x) ∧ RS g m0 q z I' R' M' ∧ eqI [47, 48, 50] I I' ∧ eqR [] R R' ∧ (x = 0 ∨ x = 1) ∧ (x = 0 ∨ ∃ p1, I' 50 = some p1 ∧ MB f n p p1)) := by
  obtain ⟨d, rfl⟩ : ∃ e, d = e + 1 := ⟨d - 1, by omega⟩
  refine mt_in (b := mb_224 g) rfl rfl ?_
  show ml (mT g) d (mb_224 g).2 (0, [(0, .ref m0)], [], M) _
  have hn := hF.1
  have l2 : (2 : Int64).toInt = 2 := rfl
  refine ml_blk 2 (S' := (4, [(0, .ref m0)], [.long 2, .ref m0], M)) rfl ?_
  refine ml_call (a := [.ref m0, .long 2]) (rest := []) rfl (hR.okc rfl rfl rfl) rfl rfl (rm_item hR (hk50) hF (h0) (h1) (by decide) (by decide) (by omega)) (fun v11 M12 h13 => ?_)
  obtain ⟨u19, I14, R15, rfl, hR16, hI17, hV18, z20, w21⟩ := h13
  show ml _ _ _ (7, [(0, .ref m0)], [.int u19], M12) _
  refine ml_if (S1 := (12, [(0, .ref m0)], [], M12)) (S2 := (10, [(0, .ref m0)], [], M12)) rfl rfl rfl (fun c_7 => ?_) (fun c_7 => ?_)
  · have c_7 : ¬ u19 = 0 := of_decide_eq_true c_7
    have ha := w21.resolve_left c_7
    have ep2 : (p + 2).toInt = p.toInt + 2 := i_add (by have : (2 : Int32).toInt = 2 := rfl; omega) (by have : (2 : Int32).toInt = 2 := rfl; omega)
    refine ml_blk 2 (S' := (14, [(0, .ref m0)], [.ref m0, .ref m0], M12)) rfl ?_
    refine rg_int (S' := (17, [(0, .ref m0)], [.int p, .ref m0], M12)) rfl hR16 rfl ((hI17 50 (by decide)).trans (hk50)) rfl ?_
    have hF22 : FK n f I14 R15 := (hF.mono (cIx hI17 (by decide)) (cRx hV18 (by decide)))
    refine ml_call (a := [.ref m0, .int p]) (rest := []) rfl (hR16.okc rfl rfl rfl) rfl rfl (rm_u2 hR16 hF22 (h0) (by omega) (by omega)) (fun v23 M24 h25 => ?_)
    obtain ⟨rfl, h25⟩ := h25
    rw [h25]
    show ml _ _ _ (20, [(0, .ref m0)], [.int (f2 f p)], M12) _
    refine ml_st (S' := (21, [(1, .int (f2 f p)), (0, .ref m0)], [], M12)) rfl rfl rfl ?_
    refine ml_blk 2 (S' := (23, [(1, .int (f2 f p)), (0, .ref m0)], [.ref m0, .ref m0], M12)) rfl ?_
    refine rg_int (S' := (26, [(1, .int (f2 f p)), (0, .ref m0)], [.int p, .ref m0], M12)) rfl hR16 rfl ((hI17 50 (by decide)).trans (hk50)) rfl ?_
    refine ml_blk 2 (S' := (28, [(1, .int (f2 f p)), (0, .ref m0)], [.int (p + 2), .ref m0], M12)) rfl ?_
    refine rp_int rfl hR16 rfl (fun M26 I27 hR28 e29 f30 => ?_)
    show ml _ _ _ (31, [(1, .int (f2 f p)), (0, .ref m0)], [], M26) _
    refine ml_st (S' := (32, [(1, .int (f2 f p)), (0, .ref m0)], [.int 0], M26)) rfl rfl rfl ?_
    refine ml_st (S' := (33, [(0, .ref m0), (1, .int (f2 f p)), (2, .int 0)], [], M26)) rfl rfl rfl ?_
    have L_33 : ∀ (n_33 : Nat) (i33_2 : Int32) (pa : Int32) (M_33 : mi_H) (I_33 : rI) (R_33 : rR), (2147483648 - i33_2.toInt).toNat ≤ n_33 → RS g m0 q z I_33 R_33 M_33 → eqI [47, 48, 50] I27 I_33 → eqR [] R15 R_33 → (I_33 50 = some pa ∧ 0 ≤ pa.toInt ∧ pa.toInt ≤ n ∧ 0 ≤ i33_2.toInt ∧ i33_2.toInt ≤ (f2 f p).toInt ∧ itr (MB1 f n) i33_2.toInt.toNat (p + 2) pa) → ml (mT g) d (mb_224 g).2 (33, [(0, .ref m0), (1, .int (f2 f p)), (2, .int i33_2)], [], M_33) (fun v M' => ∃ (x : Int32) (I' : rI) (R' : rR), v = some (.int x) ∧ RS g m0 q z I' R' M' ∧ eqI [47, 48, 50] I I' ∧ eqR [] R R' ∧ (x = 0 ∨ x = 1) ∧ (x = 0 ∨ ∃ p1, I' 50 = some p1 ∧ MB f n p p1)) := by
      intro n_33
      induction n_33 with
      | zero => intro i33_2 pa M_33 I_33 R_33 hn; exact (loop_zero hn).elim
      | succ n_33 ih_33 =>
        intro i33_2 pa M_33 I_33 R_33 hn_33 hR_33 hI_33 hV_33 hi_33
        obtain ⟨hi50, hpa0, hpa1, hk0, hk1, hit⟩ := hi_33
        refine ml_blk 2 (S' := (35, [(0, .ref m0), (1, .int (f2 f p)), (2, .int i33_2)], [.int (f2 f p), .int i33_2], M_33)) rfl ?_
        refine ml_if2 (S1 := (88, [(0, .ref m0), (1, .int (f2 f p)), (2, .int i33_2)], [], M_33)) (S2 := (38, [(0, .ref m0), (1, .int (f2 f p)), (2, .int i33_2)], [], M_33)) rfl rfl rfl (fun c_35 => ?_) (fun c_35 => ?_)
        · have c_35 : (f2 f p) ≤ i33_2 := of_decide_eq_true c_35
          refine ml_st (S' := (89, [(0, .ref m0), (1, .int (f2 f p)), (2, .int i33_2)], [.int 1], M_33)) rfl rfl rfl ?_
          exact ml_ret rfl (r_z (Or.inr rfl)) (⟨_, _, _, rfl, hR_33, (((eqI.rf.tr hI17 (by decide)).put f30 (by decide)).tr hI_33 (by decide)), ((eqR.rf.tr hV18 (by decide)).tr hV_33 (by decide)), Or.inr rfl, Or.inr ⟨pa, hi50, h0, by omega, itr_end hit hk1 c_35, hpa1⟩⟩)
        · have c_35 : ¬ ((f2 f p) ≤ i33_2) := of_decide_eq_false c_35
          refine ml_st (S' := (39, [(0, .ref m0), (1, .int (f2 f p)), (2, .int i33_2)], [.int 0], M_33)) rfl rfl rfl ?_
          refine ml_st (S' := (40, [(0, .ref m0), (1, .int (f2 f p)), (2, .int i33_2), (3, .int 0)], [], M_33)) rfl rfl rfl ?_
          have L_40 : ∀ (n_40 : Nat) (i40_3 : Int32) (pb : Int32) (M_40 : mi_H) (I_40 : rI) (R_40 : rR), (2147483648 - i40_3.toInt).toNat ≤ n_40 → RS g m0 q z I_40 R_40 M_40 → eqI [47, 48, 50] I_33 I_40 → eqR [] R_33 R_40 → (I_40 50 = some pb ∧ 0 ≤ pb.toInt ∧ pb.toInt ≤ n ∧ 0 ≤ i40_3.toInt ∧ i40_3.toInt ≤ 3 ∧ pb.toInt = pa.toInt + 2 * i40_3.toInt) → ml (mT g) d (mb_224 g).2 (40, [(0, .ref m0), (1, .int (f2 f p)), (2, .int i33_2), (3, .int i40_3)], [], M_40) (fun v M' => ∃ (x : Int32) (I' : rI) (R' : rR), v = some (.int x) ∧ RS g m0 q z I' R' M' ∧ eqI [47, 48, 50] I I' ∧ eqR [] R R' ∧ (x = 0 ∨ x = 1) ∧ (x = 0 ∨ ∃ p1, I' 50 = some p1 ∧ MB f n p p1)) := by
            intro n_40
            induction n_40 with
            | zero => intro i40_3 pb M_40 I_40 R_40 hn; exact (loop_zero hn).elim
            | succ n_40 ih_40 =>
              intro i40_3 pb M_40 I_40 R_40 hn_40 hR_40 hI_40 hV_40 hi_40
              obtain ⟨hj50, hpb0, hpb1, hq0, hq1, hqe⟩ := hi_40
              refine ml_blk 2 (S' := (42, [(0, .ref m0), (1, .int (f2 f p)), (2, .int i33_2), (3, .int i40_3)], [.int 3, .int i40_3], M_40)) rfl ?_
              refine ml_if2 (S1 := (73, [(0, .ref m0), (1, .int (f2 f p)), (2, .int i33_2), (3, .int i40_3)], [], M_40)) (S2 := (45, [(0, .ref m0), (1, .int (f2 f p)), (2, .int i33_2), (3, .int i40_3)], [], M_40)) rfl rfl rfl (fun c_42 => ?_) (fun c_42 => ?_)
              · have c_42 : 3 ≤ i40_3 := of_decide_eq_true c_42
                have hq6 : pa.toInt + 6 = pb.toInt := by have q := i_le c_42; have q3 : (3 : Int32).toInt = 3 := rfl; omega
                have hq3 : pb = pa + 6 := by have q := i_le c_42; have q3 : (3 : Int32).toInt = 3 := rfl; have q6 : (6 : Int32).toInt = 6 := rfl; apply Int32.toInt_inj.mp; rw [i_add (by omega) (by omega)]; omega
                refine ml_st (S' := (74, [(0, .ref m0), (1, .int (f2 f p)), (2, .int i33_2), (3, .int i40_3)], [.ref m0], M_40)) rfl rfl rfl ?_
                have hF31 : FK n f I_40 R_40 := (((hF22.mono (pIx f30 (by decide)) (fun _ _ => rfl)).mono (cIx hI_33 (by decide)) (cRx hV_33 (by decide))).mono (cIx hI_40 (by decide)) (cRx hV_40 (by decide)))
                refine ml_call (a := [.ref m0]) (rest := []) rfl (hR_40.okc rfl rfl rfl) rfl rfl (rm_attributes hR_40 (hj50) hF31 (hpb0) (hpb1) (by omega)) (fun v32 M33 h34 => ?_)
                obtain ⟨u40, I35, R36, rfl, hR37, hI38, hV39, z41, w42⟩ := h34
                show ml _ _ _ (77, [(0, .ref m0), (1, .int (f2 f p)), (2, .int i33_2), (3, .int i40_3)], [.int u40], M33) _
                refine ml_if (S1 := (82, [(0, .ref m0), (1, .int (f2 f p)), (2, .int i33_2), (3, .int i40_3)], [], M33)) (S2 := (80, [(0, .ref m0), (1, .int (f2 f p)), (2, .int i33_2), (3, .int i40_3)], [], M33)) rfl rfl rfl (fun c_77 => ?_) (fun c_77 => ?_)
                · have c_77 : ¬ u40 = 0 := of_decide_eq_true c_77
                  obtain ⟨p1, hp1, hat⟩ := w42.resolve_left c_77
                  have hat1 := at_ge hn hat
                  refine ml_st (S' := (85, [(2, .int (i33_2 + 1)), (0, .ref m0), (1, .int (f2 f p)), (3, .int i40_3)], [], M33)) rfl rfl rfl ?_
                  refine ml_st (S' := (33, [(0, .ref m0), (1, .int (f2 f p)), (2, .int (i33_2 + 1))], [], M33)) rfl rfl rfl ?_
                  exact ih_33 (i33_2 + 1) p1 _ _ _ (loop_inc (Int32.not_le.mp c_35) hn_33) hR37 (((eqI.rf.tr hI_33 (by decide)).tr hI_40 (by decide)).tr hI38 (by decide)) (((eqR.rf.tr hV_33 (by decide)).tr hV_40 (by decide)).tr hV39 (by decide)) (⟨hp1, by omega, hat1.2, by rw [inc_lt (Int32.not_le.mp c_35)]; omega, by rw [inc_lt (Int32.not_le.mp c_35)]; have := i_nle c_35; omega, itr_inc hk0 c_35 hit ⟨hpa0, by omega, hq3 ▸ hat⟩⟩)
                · have c_77 : ¬ (¬ u40 = 0) := of_decide_eq_false c_77
                  refine ml_st (S' := (81, [(0, .ref m0), (1, .int (f2 f p)), (2, .int i33_2), (3, .int i40_3)], [.int 0], M33)) rfl rfl rfl ?_
                  exact ml_ret rfl (r_z (Or.inl rfl)) (⟨_, _, _, rfl, hR37, (((((eqI.rf.tr hI17 (by decide)).put f30 (by decide)).tr hI_33 (by decide)).tr hI_40 (by decide)).tr hI38 (by decide)), ((((eqR.rf.tr hV18 (by decide)).tr hV_33 (by decide)).tr hV_40 (by decide)).tr hV39 (by decide)), Or.inl rfl, Or.inl rfl⟩)
              · have c_42 : ¬ (3 ≤ i40_3) := of_decide_eq_false c_42
                refine ml_blk 2 (S' := (49, [(0, .ref m0), (1, .int (f2 f p)), (2, .int i33_2), (3, .int i40_3)], [.long 2, .ref m0], M_40)) rfl ?_
                have hF43 : FK n f I_40 R_40 := (((hF22.mono (pIx f30 (by decide)) (fun _ _ => rfl)).mono (cIx hI_33 (by decide)) (cRx hV_33 (by decide))).mono (cIx hI_40 (by decide)) (cRx hV_40 (by decide)))
                refine ml_call (a := [.ref m0, .long 2]) (rest := []) rfl (hR_40.okc rfl rfl rfl) rfl rfl (rm_item hR_40 (hj50) hF43 (hpb0) (hpb1) (by decide) (by decide) (by omega)) (fun v44 M45 h46 => ?_)
                obtain ⟨u52, I47, R48, rfl, hR49, hI50, hV51, z53, w54⟩ := h46
                show ml _ _ _ (52, [(0, .ref m0), (1, .int (f2 f p)), (2, .int i33_2), (3, .int i40_3)], [.int u52], M45) _
                refine ml_if (S1 := (57, [(0, .ref m0), (1, .int (f2 f p)), (2, .int i33_2), (3, .int i40_3)], [], M45)) (S2 := (55, [(0, .ref m0), (1, .int (f2 f p)), (2, .int i33_2), (3, .int i40_3)], [], M45)) rfl rfl rfl (fun c_52 => ?_) (fun c_52 => ?_)
                · have c_52 : ¬ u52 = 0 := of_decide_eq_true c_52
                  have hb := w54.resolve_left c_52
                  have d2 : (pb + 2).toInt = pb.toInt + 2 := i_add (by have : (2 : Int32).toInt = 2 := rfl; omega) (by have : (2 : Int32).toInt = 2 := rfl; omega)
                  refine ml_blk 2 (S' := (59, [(0, .ref m0), (1, .int (f2 f p)), (2, .int i33_2), (3, .int i40_3)], [.ref m0, .ref m0], M45)) rfl ?_
                  refine rg_int (S' := (62, [(0, .ref m0), (1, .int (f2 f p)), (2, .int i33_2), (3, .int i40_3)], [.int pb, .ref m0], M45)) rfl hR49 rfl ((hI50 50 (by decide)).trans (hj50)) rfl ?_
                  refine ml_blk 2 (S' := (64, [(0, .ref m0), (1, .int (f2 f p)), (2, .int i33_2), (3, .int i40_3)], [.int (pb + 2), .ref m0], M45)) rfl ?_
                  refine rp_int rfl hR49 rfl (fun M55 I56 hR57 e58 f59 => ?_)
                  show ml _ _ _ (67, [(0, .ref m0), (1, .int (f2 f p)), (2, .int i33_2), (3, .int i40_3)], [], M55) _
                  refine ml_st (S' := (70, [(3, .int (i40_3 + 1)), (0, .ref m0), (1, .int (f2 f p)), (2, .int i33_2)], [], M55)) rfl rfl rfl ?_
                  refine ml_st (S' := (40, [(0, .ref m0), (1, .int (f2 f p)), (2, .int i33_2), (3, .int (i40_3 + 1))], [], M55)) rfl rfl rfl ?_
                  exact ih_40 (i40_3 + 1) (pb + 2) _ _ _ (loop_inc (Int32.not_le.mp c_42) hn_40) hR57 (((eqI.rf.tr hI_40 (by decide)).tr hI50 (by decide)).put f59 (by decide)) ((eqR.rf.tr hV_40 (by decide)).tr hV51 (by decide)) (⟨e58, by omega, by omega, by rw [inc_lt (Int32.not_le.mp c_42)]; omega, by rw [inc_lt (Int32.not_le.mp c_42)]; have := i_nle c_42; have : (3 : Int32).toInt = 3 := rfl; omega, by rw [inc_lt (Int32.not_le.mp c_42)]; omega⟩)
                · have c_52 : ¬ (¬ u52 = 0) := of_decide_eq_false c_52
                  refine ml_st (S' := (56, [(0, .ref m0), (1, .int (f2 f p)), (2, .int i33_2), (3, .int i40_3)], [.int 0], M45)) rfl rfl rfl ?_
                  exact ml_ret rfl (r_z (Or.inl rfl)) (⟨_, _, _, rfl, hR49, (((((eqI.rf.tr hI17 (by decide)).put f30 (by decide)).tr hI_33 (by decide)).tr hI_40 (by decide)).tr hI50 (by decide)), ((((eqR.rf.tr hV18 (by decide)).tr hV_33 (by decide)).tr hV_40 (by decide)).tr hV51 (by decide)), Or.inl rfl, Or.inl rfl⟩)
          exact L_40 _ 0 pa _ _ _ (Nat.le_refl _) hR_33 eqI.rf eqR.rf (⟨hi50, hpa0, hpa1, by decide, by decide, by show _ = pa.toInt + 2 * 0; omega⟩)
    exact L_33 _ 0 (p + 2) _ _ _ (Nat.le_refl _) hR28 eqI.rf eqR.rf (⟨e29, by omega, by omega, by decide, by show (0 : Int) ≤ _; exact f2_pos, rfl⟩)
  · have c_7 : ¬ (¬ u19 = 0) := of_decide_eq_false c_7
    refine ml_st (S' := (11, [(0, .ref m0)], [.int 0], M12)) rfl rfl rfl ?_
    exact ml_ret rfl (r_z (Or.inl rfl)) (⟨_, _, _, rfl, hR16, (eqI.rf.tr hI17 (by decide)), (eqR.rf.tr hV18 (by decide)), Or.inl rfl, Or.inl rfl⟩)
