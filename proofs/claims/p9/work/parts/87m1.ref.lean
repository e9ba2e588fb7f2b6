/-! the bytes that come (my own text) -/
section BTA
def ush (x y : Int32) : Int32 := (x.toUInt32 >>> (y.toUInt32 &&& Int32.toUInt32 31)).toInt32
/-- a word's byte -/
def wB (x : Int32) (k : Nat) : Int32 := if k = 0 then (ush x 24).toInt8.toInt32 else if k = 1 then (ush x 16).toInt8.toInt32 else if k = 2 then (ush x 8).toInt8.toInt32 else x.toInt8.toInt32
theorem ush_0 (x : Int32) : ush x 0 = x := by
  unfold ush
  apply Int32.toBitVec_inj.mp
  simp
theorem nar_b (x : Int32) : vp_nar .byte x.toInt8.toInt32 = x.toInt8.toInt32 := by
  rw [vp_nar_byte]
  simp
theorem wB_nar (x : Int32) (k : Nat) : vp_nar .byte (wB x k) = wB x k := by
  unfold wB
  split
  · exact nar_b _
  · split
    · exact nar_b _
    · split
      · exact nar_b _
      · exact nar_b _
/-- four bytes behind the first c -/
def wr4 (C : Nat → Int32) (c : Nat) (x : Int32) : Nat → Int32 := fun i => if i < c then C i else wB x (i - c)
theorem wr4_lo {C : Nat → Int32} {c i : Nat} {x : Int32} (h : i < c) : wr4 C c x i = C i := by
  unfold wr4
  rw [if_pos h]
theorem wr4_at {C : Nat → Int32} {c k : Nat} {x : Int32} : wr4 C c x (c + k) = wB x k := by
  unfold wr4
  rw [if_neg (by omega), Nat.add_sub_cancel_left]
/-- five words -/
def fdC (C : Nat → Int32) (c : Nat) (x1 x2 x3 x4 x5 : Int32) : Nat → Int32 := wr4 (wr4 (wr4 (wr4 (wr4 C c x1) (c + 4) x2) (c + 8) x3) (c + 12) x4) (c + 16) x5
theorem BX.cg {a n : Nat} {f f' : Nat → Int32} {I I' : rI} {R : rR} (h : BX a n f I R) (e : ∀ i, i < n → f' i = f i) : BX a n f' I' R := fun i hi => by
  rw [e i hi]
  exact h i hi
theorem BX.w4 {c k : Nat} {C : Nat → Int32} {x y : Int32} {I I' : rI} {R R' : rR} (h : BX 15 (c + k) (wr4 C c x) I R) (hR : R' = rset R 15 (c + k) (vp_nar .byte y)) (e : y = wB x k) : BX 15 (c + k + 1) (wr4 C c x) I' R' :=
  BX.st h hR (by rw [wr4_at]; exact wB_nar _ _) (by rw [wr4_at]; exact e)
end BTA
set_option maxHeartbeats 1000000 in
theorem rd_four {g : xe_G} {m0 : Nat} {q : Nat → Nat} {z : Nat × Nat} {I : rI} {R : rR} {M : mi_H} {c : Nat} {C : Nat → Int32} {x : Int32} (hR : RS g m0 q z I R M) (hi19 : I 19 = some (nI c)) (hC : BX 15 c C I R) (hc : c + 4 ≤ 65540) : pt (mT g) 211 [.ref m0, .int x] M (fun v M' => (∃  (I' : rI) (R' : rR), v = none ∧ RS g m0 q z I' R' M' ∧ eqI [19] I I' ∧ eqR [15] R R' ∧ I' 19 = some (nI (c + 4)) ∧ BX 15 (c + 4) (wr4 C c x) I' R')) := by
  refine pt_in (b := mb_211 g) rfl (fun kf => ?_)
  show pl (mT g) kf (mb_211 g).2 (0, [(0, .ref m0), (1, .int x)], [], M) _
  have hEI : eqI [19] I I := eqI.rf
  have hER : eqR [15] R R := eqR.rf
  refine ps_st (S' := (2, [(0, .ref m0), (1, .int x)], [.int 24], M)) rfl rfl rfl ?_
  refine ps_st (S' := (3, [(0, .ref m0), (1, .int x), (2, .int 24)], [], M)) rfl rfl rfl ?_
  have hC_1 : BX 15 (c + 0) (wr4 C c x) I R := BX.cg hC (fun i hi => wr4_lo (by omega))
  refine ps_st (S' := (4, [(0, .ref m0), (1, .int x), (2, .int 24)], [.int 24], M)) rfl rfl rfl ?_
  refine ps_if (S1 := (33, [(0, .ref m0), (1, .int x), (2, .int 24)], [], M)) (S2 := (7, [(0, .ref m0), (1, .int x), (2, .int 24)], [], M)) rfl rfl rfl (fun c_4 => ?_) (fun c_4 => ?_)
  · exact absurd (of_decide_eq_true c_4) (by decide)
  refine ps_st (S' := (8, [(0, .ref m0), (1, .int x), (2, .int 24)], [.ref m0], M)) rfl rfl rfl ?_
  refine pr_ref (j := 15) (S' := (11, [(0, .ref m0), (1, .int x), (2, .int 24)], [.ref (q 15)], M)) rfl hR rfl rfl ?_
  refine ps_st (S' := (12, [(0, .ref m0), (1, .int x), (2, .int 24)], [.ref m0, .ref (q 15)], M)) rfl rfl rfl ?_
  refine ps_st (S' := (13, [(0, .ref m0), (1, .int x), (2, .int 24)], [.ref m0, .ref m0, .ref (q 15)], M)) rfl rfl rfl ?_
  refine pr_int (j := 19) (S' := (16, [(0, .ref m0), (1, .int x), (2, .int 24)], [.int (nI c), .ref m0, .ref (q 15)], M)) rfl hR rfl hi19 rfl ?_
  refine ps_st (S' := (17, [(0, .ref m0), (1, .int x), (2, .int 24)], [.int (nI c), .ref m0, .int (nI c), .ref (q 15)], M)) rfl rfl rfl ?_
  refine ps_st (S' := (18, [(0, .ref m0), (1, .int x), (2, .int 24)], [.int 1, .int (nI c), .ref m0, .int (nI c), .ref (q 15)], M)) rfl rfl rfl ?_
  refine ps_st (S' := (19, [(0, .ref m0), (1, .int x), (2, .int 24)], [.int ((nI c) + 1), .ref m0, .int (nI c), .ref (q 15)], M)) rfl rfl rfl ?_
  rw [nI_add1 (p := c) (k := 1) (x := 1) rfl (by omega)]
  show pl _ _ _ (_, [(0, .ref m0), (1, .int x), (2, .int 24)], [.int (nI (c + 1)), .ref m0, .int (nI c), .ref (q 15)], M) _
  refine pr_put (j := 19) rfl hR rfl (fun M2 I3 hR4 hi5 hI6 => ?_)
  have hC_7 := hC_1.mono (pIx hI6 (by decide)) (fun _ _ => rfl)
  have hEI8 := hEI.put hI6 (by decide)
  show pl _ _ _ (22, [(0, .ref m0), (1, .int x), (2, .int 24)], [.int (nI c), .ref (q 15)], M2) _
  refine ps_st (S' := (23, [(0, .ref m0), (1, .int x), (2, .int 24)], [.int x, .int (nI c), .ref (q 15)], M2)) rfl rfl rfl ?_
  refine ps_st (S' := (24, [(0, .ref m0), (1, .int x), (2, .int 24)], [.int 24, .int x, .int (nI c), .ref (q 15)], M2)) rfl rfl rfl ?_
  refine ps_st (S' := (25, [(0, .ref m0), (1, .int x), (2, .int 24)], [.int ((x.toUInt32 >>> ((24 : Int32).toUInt32 &&& Int32.toUInt32 31)).toInt32), .int (nI c), .ref (q 15)], M2)) rfl rfl rfl ?_
  refine ps_st (S' := (26, [(0, .ref m0), (1, .int x), (2, .int 24)], [.int (((x.toUInt32 >>> ((24 : Int32).toUInt32 &&& Int32.toUInt32 31)).toInt32).toInt8.toInt32), .int (nI c), .ref (q 15)], M2)) rfl rfl rfl ?_
  refine pr_st (a := 15) (j := c) rfl hR4 rfl (by omega) (fun M9 R10 i1_26 hR11 hS12 => ?_)
  have hER13 := hER.st hS12 (by decide)
  show pl _ _ _ (27, [(0, .ref m0), (1, .int x), (2, .int 24)], [], M9) _
  have hC_14 : BX 15 (c + 1) (wr4 C c x) I3 R10 := BX.w4 (k := 0) hC_1 hS12 (rfl)
  refine ps_st (S' := (30, [(2, .int (24 + (-8))), (0, .ref m0), (1, .int x)], [], M9)) rfl rfl rfl ?_
  refine ps_st (S' := (3, [(0, .ref m0), (1, .int x), (2, .int (24 + (-8)))], [], M9)) rfl rfl rfl ?_
  rw [show ((24 + (-8)) : Int32) = 16 by decide]
  show pl _ _ _ (3, [(0, .ref m0), (1, .int x), (2, .int 16)], [], M9) _
  refine ps_st (S' := (4, [(0, .ref m0), (1, .int x), (2, .int 16)], [.int 16], M9)) rfl rfl rfl ?_
  refine ps_if (S1 := (33, [(0, .ref m0), (1, .int x), (2, .int 16)], [], M9)) (S2 := (7, [(0, .ref m0), (1, .int x), (2, .int 16)], [], M9)) rfl rfl rfl (fun c_4 => ?_) (fun c_4 => ?_)
  · exact absurd (of_decide_eq_true c_4) (by decide)
  refine ps_st (S' := (8, [(0, .ref m0), (1, .int x), (2, .int 16)], [.ref m0], M9)) rfl rfl rfl ?_
  refine pr_ref (j := 15) (S' := (11, [(0, .ref m0), (1, .int x), (2, .int 16)], [.ref (q 15)], M9)) rfl hR11 rfl rfl ?_
  refine ps_st (S' := (12, [(0, .ref m0), (1, .int x), (2, .int 16)], [.ref m0, .ref (q 15)], M9)) rfl rfl rfl ?_
  refine ps_st (S' := (13, [(0, .ref m0), (1, .int x), (2, .int 16)], [.ref m0, .ref m0, .ref (q 15)], M9)) rfl rfl rfl ?_
  refine pr_int (j := 19) (S' := (16, [(0, .ref m0), (1, .int x), (2, .int 16)], [.int (nI (c + 1)), .ref m0, .ref (q 15)], M9)) rfl hR11 rfl hi5 rfl ?_
  refine ps_st (S' := (17, [(0, .ref m0), (1, .int x), (2, .int 16)], [.int (nI (c + 1)), .ref m0, .int (nI (c + 1)), .ref (q 15)], M9)) rfl rfl rfl ?_
  refine ps_st (S' := (18, [(0, .ref m0), (1, .int x), (2, .int 16)], [.int 1, .int (nI (c + 1)), .ref m0, .int (nI (c + 1)), .ref (q 15)], M9)) rfl rfl rfl ?_
  refine ps_st (S' := (19, [(0, .ref m0), (1, .int x), (2, .int 16)], [.int ((nI (c + 1)) + 1), .ref m0, .int (nI (c + 1)), .ref (q 15)], M9)) rfl rfl rfl ?_
  rw [nI_add1 (p := c + 1) (k := 1) (x := 1) rfl (by omega)]
  show pl _ _ _ (_, [(0, .ref m0), (1, .int x), (2, .int 16)], [.int (nI (c + 2)), .ref m0, .int (nI (c + 1)), .ref (q 15)], M9) _
  refine pr_put (j := 19) rfl hR11 rfl (fun M15 I16 hR17 hi18 hI19 => ?_)
  have hC_20 := hC_14.mono (pIx hI19 (by decide)) (fun _ _ => rfl)
  have hEI21 := hEI8.put hI19 (by decide)
  show pl _ _ _ (22, [(0, .ref m0), (1, .int x), (2, .int 16)], [.int (nI (c + 1)), .ref (q 15)], M15) _
  refine ps_st (S' := (23, [(0, .ref m0), (1, .int x), (2, .int 16)], [.int x, .int (nI (c + 1)), .ref (q 15)], M15)) rfl rfl rfl ?_
  refine ps_st (S' := (24, [(0, .ref m0), (1, .int x), (2, .int 16)], [.int 16, .int x, .int (nI (c + 1)), .ref (q 15)], M15)) rfl rfl rfl ?_
  refine ps_st (S' := (25, [(0, .ref m0), (1, .int x), (2, .int 16)], [.int ((x.toUInt32 >>> ((16 : Int32).toUInt32 &&& Int32.toUInt32 31)).toInt32), .int (nI (c + 1)), .ref (q 15)], M15)) rfl rfl rfl ?_
  refine ps_st (S' := (26, [(0, .ref m0), (1, .int x), (2, .int 16)], [.int (((x.toUInt32 >>> ((16 : Int32).toUInt32 &&& Int32.toUInt32 31)).toInt32).toInt8.toInt32), .int (nI (c + 1)), .ref (q 15)], M15)) rfl rfl rfl ?_
  refine pr_st (a := 15) (j := c + 1) rfl hR17 rfl (by omega) (fun M22 R23 i1_26 hR24 hS25 => ?_)
  have hER26 := hER13.st hS25 (by decide)
  show pl _ _ _ (27, [(0, .ref m0), (1, .int x), (2, .int 16)], [], M22) _
  have hC_27 : BX 15 (c + 2) (wr4 C c x) I16 R23 := BX.w4 (k := 1) hC_14 hS25 (rfl)
  refine ps_st (S' := (30, [(2, .int (16 + (-8))), (0, .ref m0), (1, .int x)], [], M22)) rfl rfl rfl ?_
  refine ps_st (S' := (3, [(0, .ref m0), (1, .int x), (2, .int (16 + (-8)))], [], M22)) rfl rfl rfl ?_
  rw [show ((16 + (-8)) : Int32) = 8 by decide]
  show pl _ _ _ (3, [(0, .ref m0), (1, .int x), (2, .int 8)], [], M22) _
  refine ps_st (S' := (4, [(0, .ref m0), (1, .int x), (2, .int 8)], [.int 8], M22)) rfl rfl rfl ?_
  refine ps_if (S1 := (33, [(0, .ref m0), (1, .int x), (2, .int 8)], [], M22)) (S2 := (7, [(0, .ref m0), (1, .int x), (2, .int 8)], [], M22)) rfl rfl rfl (fun c_4 => ?_) (fun c_4 => ?_)
  · exact absurd (of_decide_eq_true c_4) (by decide)
  refine ps_st (S' := (8, [(0, .ref m0), (1, .int x), (2, .int 8)], [.ref m0], M22)) rfl rfl rfl ?_
  refine pr_ref (j := 15) (S' := (11, [(0, .ref m0), (1, .int x), (2, .int 8)], [.ref (q 15)], M22)) rfl hR24 rfl rfl ?_
  refine ps_st (S' := (12, [(0, .ref m0), (1, .int x), (2, .int 8)], [.ref m0, .ref (q 15)], M22)) rfl rfl rfl ?_
  refine ps_st (S' := (13, [(0, .ref m0), (1, .int x), (2, .int 8)], [.ref m0, .ref m0, .ref (q 15)], M22)) rfl rfl rfl ?_
  refine pr_int (j := 19) (S' := (16, [(0, .ref m0), (1, .int x), (2, .int 8)], [.int (nI (c + 2)), .ref m0, .ref (q 15)], M22)) rfl hR24 rfl hi18 rfl ?_
  refine ps_st (S' := (17, [(0, .ref m0), (1, .int x), (2, .int 8)], [.int (nI (c + 2)), .ref m0, .int (nI (c + 2)), .ref (q 15)], M22)) rfl rfl rfl ?_
  refine ps_st (S' := (18, [(0, .ref m0), (1, .int x), (2, .int 8)], [.int 1, .int (nI (c + 2)), .ref m0, .int (nI (c + 2)), .ref (q 15)], M22)) rfl rfl rfl ?_
  refine ps_st (S' := (19, [(0, .ref m0), (1, .int x), (2, .int 8)], [.int ((nI (c + 2)) + 1), .ref m0, .int (nI (c + 2)), .ref (q 15)], M22)) rfl rfl rfl ?_
  rw [nI_add1 (p := c + 2) (k := 1) (x := 1) rfl (by omega)]
  show pl _ _ _ (_, [(0, .ref m0), (1, .int x), (2, .int 8)], [.int (nI (c + 3)), .ref m0, .int (nI (c + 2)), .ref (q 15)], M22) _
  refine pr_put (j := 19) rfl hR24 rfl (fun M28 I29 hR30 hi31 hI32 => ?_)
  have hC_33 := hC_27.mono (pIx hI32 (by decide)) (fun _ _ => rfl)
  have hEI34 := hEI21.put hI32 (by decide)
  show pl _ _ _ (22, [(0, .ref m0), (1, .int x), (2, .int 8)], [.int (nI (c + 2)), .ref (q 15)], M28) _
  refine ps_st (S' := (23, [(0, .ref m0), (1, .int x), (2, .int 8)], [.int x, .int (nI (c + 2)), .ref (q 15)], M28)) rfl rfl rfl ?_
  refine ps_st (S' := (24, [(0, .ref m0), (1, .int x), (2, .int 8)], [.int 8, .int x, .int (nI (c + 2)), .ref (q 15)], M28)) rfl rfl rfl ?_
  refine ps_st (S' := (25, [(0, .ref m0), (1, .int x), (2, .int 8)], [.int ((x.toUInt32 >>> ((8 : Int32).toUInt32 &&& Int32.toUInt32 31)).toInt32), .int (nI (c + 2)), .ref (q 15)], M28)) rfl rfl rfl ?_
  refine ps_st (S' := (26, [(0, .ref m0), (1, .int x), (2, .int 8)], [.int (((x.toUInt32 >>> ((8 : Int32).toUInt32 &&& Int32.toUInt32 31)).toInt32).toInt8.toInt32), .int (nI (c + 2)), .ref (q 15)], M28)) rfl rfl rfl ?_
  refine pr_st (a := 15) (j := c + 2) rfl hR30 rfl (by omega) (fun M35 R36 i1_26 hR37 hS38 => ?_)
  have hER39 := hER26.st hS38 (by decide)
  show pl _ _ _ (27, [(0, .ref m0), (1, .int x), (2, .int 8)], [], M35) _
  have hC_40 : BX 15 (c + 3) (wr4 C c x) I29 R36 := BX.w4 (k := 2) hC_27 hS38 (rfl)
  refine ps_st (S' := (30, [(2, .int (8 + (-8))), (0, .ref m0), (1, .int x)], [], M35)) rfl rfl rfl ?_
  refine ps_st (S' := (3, [(0, .ref m0), (1, .int x), (2, .int (8 + (-8)))], [], M35)) rfl rfl rfl ?_
  rw [show ((8 + (-8)) : Int32) = 0 by decide]
  show pl _ _ _ (3, [(0, .ref m0), (1, .int x), (2, .int 0)], [], M35) _
  refine ps_st (S' := (4, [(0, .ref m0), (1, .int x), (2, .int 0)], [.int 0], M35)) rfl rfl rfl ?_
  refine ps_if (S1 := (33, [(0, .ref m0), (1, .int x), (2, .int 0)], [], M35)) (S2 := (7, [(0, .ref m0), (1, .int x), (2, .int 0)], [], M35)) rfl rfl rfl (fun c_4 => ?_) (fun c_4 => ?_)
  · exact absurd (of_decide_eq_true c_4) (by decide)
  refine ps_st (S' := (8, [(0, .ref m0), (1, .int x), (2, .int 0)], [.ref m0], M35)) rfl rfl rfl ?_
  refine pr_ref (j := 15) (S' := (11, [(0, .ref m0), (1, .int x), (2, .int 0)], [.ref (q 15)], M35)) rfl hR37 rfl rfl ?_
  refine ps_st (S' := (12, [(0, .ref m0), (1, .int x), (2, .int 0)], [.ref m0, .ref (q 15)], M35)) rfl rfl rfl ?_
  refine ps_st (S' := (13, [(0, .ref m0), (1, .int x), (2, .int 0)], [.ref m0, .ref m0, .ref (q 15)], M35)) rfl rfl rfl ?_
  refine pr_int (j := 19) (S' := (16, [(0, .ref m0), (1, .int x), (2, .int 0)], [.int (nI (c + 3)), .ref m0, .ref (q 15)], M35)) rfl hR37 rfl hi31 rfl ?_
  refine ps_st (S' := (17, [(0, .ref m0), (1, .int x), (2, .int 0)], [.int (nI (c + 3)), .ref m0, .int (nI (c + 3)), .ref (q 15)], M35)) rfl rfl rfl ?_
  refine ps_st (S' := (18, [(0, .ref m0), (1, .int x), (2, .int 0)], [.int 1, .int (nI (c + 3)), .ref m0, .int (nI (c + 3)), .ref (q 15)], M35)) rfl rfl rfl ?_
  refine ps_st (S' := (19, [(0, .ref m0), (1, .int x), (2, .int 0)], [.int ((nI (c + 3)) + 1), .ref m0, .int (nI (c + 3)), .ref (q 15)], M35)) rfl rfl rfl ?_
  rw [nI_add1 (p := c + 3) (k := 1) (x := 1) rfl (by omega)]
  show pl _ _ _ (_, [(0, .ref m0), (1, .int x), (2, .int 0)], [.int (nI (c + 4)), .ref m0, .int (nI (c + 3)), .ref (q 15)], M35) _
  refine pr_put (j := 19) rfl hR37 rfl (fun M41 I42 hR43 hi44 hI45 => ?_)
  have hC_46 := hC_40.mono (pIx hI45 (by decide)) (fun _ _ => rfl)
  have hEI47 := hEI34.put hI45 (by decide)
  show pl _ _ _ (22, [(0, .ref m0), (1, .int x), (2, .int 0)], [.int (nI (c + 3)), .ref (q 15)], M41) _
  refine ps_st (S' := (23, [(0, .ref m0), (1, .int x), (2, .int 0)], [.int x, .int (nI (c + 3)), .ref (q 15)], M41)) rfl rfl rfl ?_
  refine ps_st (S' := (24, [(0, .ref m0), (1, .int x), (2, .int 0)], [.int 0, .int x, .int (nI (c + 3)), .ref (q 15)], M41)) rfl rfl rfl ?_
  refine ps_st (S' := (25, [(0, .ref m0), (1, .int x), (2, .int 0)], [.int ((x.toUInt32 >>> ((0 : Int32).toUInt32 &&& Int32.toUInt32 31)).toInt32), .int (nI (c + 3)), .ref (q 15)], M41)) rfl rfl rfl ?_
  refine ps_st (S' := (26, [(0, .ref m0), (1, .int x), (2, .int 0)], [.int (((x.toUInt32 >>> ((0 : Int32).toUInt32 &&& Int32.toUInt32 31)).toInt32).toInt8.toInt32), .int (nI (c + 3)), .ref (q 15)], M41)) rfl rfl rfl ?_
  refine pr_st (a := 15) (j := c + 3) rfl hR43 rfl (by omega) (fun M48 R49 i1_26 hR50 hS51 => ?_)
  have hER52 := hER39.st hS51 (by decide)
  show pl _ _ _ (27, [(0, .ref m0), (1, .int x), (2, .int 0)], [], M48) _
  have hC_53 : BX 15 (c + 4) (wr4 C c x) I42 R49 := BX.w4 (k := 3) hC_40 hS51 (by show (ush x 0).toInt8.toInt32 = wB x 3; rw [ush_0]; rfl)
  refine ps_st (S' := (30, [(2, .int (0 + (-8))), (0, .ref m0), (1, .int x)], [], M48)) rfl rfl rfl ?_
  refine ps_st (S' := (3, [(0, .ref m0), (1, .int x), (2, .int (0 + (-8)))], [], M48)) rfl rfl rfl ?_
  rw [show ((0 + (-8)) : Int32) = (-8) by decide]
  show pl _ _ _ (3, [(0, .ref m0), (1, .int x), (2, .int (-8))], [], M48) _
  refine ps_st (S' := (4, [(0, .ref m0), (1, .int x), (2, .int (-8))], [.int (-8)], M48)) rfl rfl rfl ?_
  refine ps_if (S1 := (33, [(0, .ref m0), (1, .int x), (2, .int (-8))], [], M48)) (S2 := (7, [(0, .ref m0), (1, .int x), (2, .int (-8))], [], M48)) rfl rfl rfl (fun c_4 => ?_) (fun c_4 => ?_)
  rotate_left
  · exact absurd (by decide) (of_decide_eq_false c_4)
  exact ps_ret rfl rfl (⟨I42, R49, rfl, hR50, hEI47, hER52, hi44, hC_53⟩)
set_option maxHeartbeats 1000000 in
theorem rd_feed {g : xe_G} {m0 : Nat} {q : Nat → Nat} {z : Nat × Nat} {I : rI} {R : rR} {M : mi_H} {c : Nat} {C : Nat → Int32} {x1 x2 x3 x4 x5 : Int32} (hR : RS g m0 q z I R M) (hi19 : I 19 = some (nI c)) (hC : BX 15 c C I R) (hc : c + 20 ≤ 65540) : pt (mT g) 205 [.ref m0, .int x1, .int x2, .int x3, .int x4, .int x5] M (fun v M' => (∃  (I' : rI) (R' : rR), v = some (.int (nI (c + 20))) ∧ RS g m0 q z I' R' M' ∧ eqI [0, 19] I I' ∧ eqR [15] R R' ∧ I' 19 = some (nI (c + 20)) ∧ BX 15 (c + 20) (fdC C c x1 x2 x3 x4 x5) I' R')) := by
  refine pt_in (b := mb_205 g) rfl (fun kf => ?_)
  show pl (mT g) kf (mb_205 g).2 (0, [(0, .ref m0), (1, .int x1), (2, .int x2), (3, .int x3), (4, .int x4), (5, .int x5)], [], M) _
  have hEI : eqI [0, 19] I I := eqI.rf
  have hER : eqR [15] R R := eqR.rf
  refine ps_st (S' := (1, [(0, .ref m0), (1, .int x1), (2, .int x2), (3, .int x3), (4, .int x4), (5, .int x5)], [.ref m0], M)) rfl rfl rfl ?_
  refine ps_st (S' := (2, [(0, .ref m0), (1, .int x1), (2, .int x2), (3, .int x3), (4, .int x4), (5, .int x5)], [.int 0, .ref m0], M)) rfl rfl rfl ?_
  refine pr_put (j := 0) rfl hR rfl (fun M1 I2 hR3 hi4 hI5 => ?_)
  have hi6 := (hI5 19 (by decide)).trans hi19
  have hC_7 := hC.mono (pIx hI5 (by decide)) (fun _ _ => rfl)
  have hEI8 := hEI.put hI5 (by decide)
  show pl _ _ _ (5, [(0, .ref m0), (1, .int x1), (2, .int x2), (3, .int x3), (4, .int x4), (5, .int x5)], [], M1) _
  refine ps_st (S' := (6, [(0, .ref m0), (1, .int x1), (2, .int x2), (3, .int x3), (4, .int x4), (5, .int x5)], [.ref m0], M1)) rfl rfl rfl ?_
  refine pr_int (j := 19) (S' := (9, [(0, .ref m0), (1, .int x1), (2, .int x2), (3, .int x3), (4, .int x4), (5, .int x5)], [.int (nI c)], M1)) rfl hR3 rfl hi6 rfl ?_
  refine ps_st (S' := (11, [(0, .ref m0), (1, .int x1), (2, .int x2), (3, .int x3), (4, .int x4), (5, .int x5)], [.int 20, .int (nI c)], M1)) rfl rfl rfl ?_
  refine ps_st (S' := (12, [(0, .ref m0), (1, .int x1), (2, .int x2), (3, .int x3), (4, .int x4), (5, .int x5)], [.int ((nI c) + 20)], M1)) rfl rfl rfl ?_
  rw [nI_add1 (p := c) (k := 20) (x := 20) rfl (by omega)]
  show pl _ _ _ (_, [(0, .ref m0), (1, .int x1), (2, .int x2), (3, .int x3), (4, .int x4), (5, .int x5)], [.int (nI (c + 20))], M1) _
  refine ps_st (S' := (14, [(0, .ref m0), (1, .int x1), (2, .int x2), (3, .int x3), (4, .int x4), (5, .int x5)], [.int 65540, .int (nI (c + 20))], M1)) rfl rfl rfl ?_
  refine ps_if2 (S1 := (24, [(0, .ref m0), (1, .int x1), (2, .int x2), (3, .int x3), (4, .int x4), (5, .int x5)], [], M1)) (S2 := (17, [(0, .ref m0), (1, .int x1), (2, .int x2), (3, .int x3), (4, .int x4), (5, .int x5)], [], M1)) rfl rfl rfl (fun c_14 => ?_) (fun c_14 => ?_)
  · have c_14 : (nI (c + 20)) ≤ 65540 := of_decide_eq_true c_14
    have n_14 : c + 20 ≤ 65540 := (le_nI (p := c + 20) (n := 65540) (by omega) (by decide)).mp c_14
    refine ps_st (S' := (25, [(0, .ref m0), (1, .int x1), (2, .int x2), (3, .int x3), (4, .int x4), (5, .int x5)], [.ref m0], M1)) rfl rfl rfl ?_
    refine ps_st (S' := (26, [(0, .ref m0), (1, .int x1), (2, .int x2), (3, .int x3), (4, .int x4), (5, .int x5)], [.int x1, .ref m0], M1)) rfl rfl rfl ?_
    refine pl_call (a := [.ref m0, .int x1]) (rest := []) rfl rfl rfl (rd_four (c := c) (C := C) (x := x1) hR3 hi6 hC_7 (by omega)) (fun v9 M10 q11 => ?_)
    obtain ⟨I12, R13, rfl, hR14, hI15, hX16, hi17, hC_18⟩ := q11
    have hi20 := (hI15 0 (by decide)).trans hi4
    have hEI21 := hEI8.tr hI15 (by decide)
    have hER22 := hER.tr hX16 (by decide)
    show pl _ _ _ (29, [(0, .ref m0), (1, .int x1), (2, .int x2), (3, .int x3), (4, .int x4), (5, .int x5)], [], M10) _
    refine ps_st (S' := (30, [(0, .ref m0), (1, .int x1), (2, .int x2), (3, .int x3), (4, .int x4), (5, .int x5)], [.ref m0], M10)) rfl rfl rfl ?_
    refine ps_st (S' := (31, [(0, .ref m0), (1, .int x1), (2, .int x2), (3, .int x3), (4, .int x4), (5, .int x5)], [.int x2, .ref m0], M10)) rfl rfl rfl ?_
    refine pl_call (a := [.ref m0, .int x2]) (rest := []) rfl rfl rfl (rd_four (c := (c + 4)) (C := (wr4 C c x1)) (x := x2) hR14 hi17 hC_18 (by omega)) (fun v23 M24 q25 => ?_)
    obtain ⟨I26, R27, rfl, hR28, hI29, hX30, hi31, hC_32⟩ := q25
    have hi33 := (hI29 0 (by decide)).trans hi20
    have hEI34 := hEI21.tr hI29 (by decide)
    have hER35 := hER22.tr hX30 (by decide)
    show pl _ _ _ (34, [(0, .ref m0), (1, .int x1), (2, .int x2), (3, .int x3), (4, .int x4), (5, .int x5)], [], M24) _
    refine ps_st (S' := (35, [(0, .ref m0), (1, .int x1), (2, .int x2), (3, .int x3), (4, .int x4), (5, .int x5)], [.ref m0], M24)) rfl rfl rfl ?_
    refine ps_st (S' := (36, [(0, .ref m0), (1, .int x1), (2, .int x2), (3, .int x3), (4, .int x4), (5, .int x5)], [.int x3, .ref m0], M24)) rfl rfl rfl ?_
    refine pl_call (a := [.ref m0, .int x3]) (rest := []) rfl rfl rfl (rd_four (c := (c + 8)) (C := (wr4 (wr4 C c x1) (c + 4) x2)) (x := x3) hR28 hi31 hC_32 (by omega)) (fun v36 M37 q38 => ?_)
    obtain ⟨I39, R40, rfl, hR41, hI42, hX43, hi44, hC_45⟩ := q38
    have hi46 := (hI42 0 (by decide)).trans hi33
    have hEI47 := hEI34.tr hI42 (by decide)
    have hER48 := hER35.tr hX43 (by decide)
    show pl _ _ _ (39, [(0, .ref m0), (1, .int x1), (2, .int x2), (3, .int x3), (4, .int x4), (5, .int x5)], [], M37) _
    refine ps_st (S' := (40, [(0, .ref m0), (1, .int x1), (2, .int x2), (3, .int x3), (4, .int x4), (5, .int x5)], [.ref m0], M37)) rfl rfl rfl ?_
    refine ps_st (S' := (42, [(0, .ref m0), (1, .int x1), (2, .int x2), (3, .int x3), (4, .int x4), (5, .int x5)], [.int x4, .ref m0], M37)) rfl rfl rfl ?_
    refine pl_call (a := [.ref m0, .int x4]) (rest := []) rfl rfl rfl (rd_four (c := (c + 12)) (C := (wr4 (wr4 (wr4 C c x1) (c + 4) x2) (c + 8) x3)) (x := x4) hR41 hi44 hC_45 (by omega)) (fun v49 M50 q51 => ?_)
    obtain ⟨I52, R53, rfl, hR54, hI55, hX56, hi57, hC_58⟩ := q51
    have hi59 := (hI55 0 (by decide)).trans hi46
    have hEI60 := hEI47.tr hI55 (by decide)
    have hER61 := hER48.tr hX56 (by decide)
    show pl _ _ _ (45, [(0, .ref m0), (1, .int x1), (2, .int x2), (3, .int x3), (4, .int x4), (5, .int x5)], [], M50) _
    refine ps_st (S' := (46, [(0, .ref m0), (1, .int x1), (2, .int x2), (3, .int x3), (4, .int x4), (5, .int x5)], [.ref m0], M50)) rfl rfl rfl ?_
    refine ps_st (S' := (48, [(0, .ref m0), (1, .int x1), (2, .int x2), (3, .int x3), (4, .int x4), (5, .int x5)], [.int x5, .ref m0], M50)) rfl rfl rfl ?_
    refine pl_call (a := [.ref m0, .int x5]) (rest := []) rfl rfl rfl (rd_four (c := (c + 16)) (C := (wr4 (wr4 (wr4 (wr4 C c x1) (c + 4) x2) (c + 8) x3) (c + 12) x4)) (x := x5) hR54 hi57 hC_58 (by omega)) (fun v62 M63 q64 => ?_)
    obtain ⟨I65, R66, rfl, hR67, hI68, hX69, hi70, hC_71⟩ := q64
    have hi72 := (hI68 0 (by decide)).trans hi59
    have hEI73 := hEI60.tr hI68 (by decide)
    have hER74 := hER61.tr hX69 (by decide)
    show pl _ _ _ (51, [(0, .ref m0), (1, .int x1), (2, .int x2), (3, .int x3), (4, .int x4), (5, .int x5)], [], M63) _
    refine ps_st (S' := (52, [(0, .ref m0), (1, .int x1), (2, .int x2), (3, .int x3), (4, .int x4), (5, .int x5)], [.ref m0], M63)) rfl rfl rfl ?_
    refine pr_int (j := 19) (S' := (55, [(0, .ref m0), (1, .int x1), (2, .int x2), (3, .int x3), (4, .int x4), (5, .int x5)], [.int (nI (c + 20))], M63)) rfl hR67 rfl hi70 rfl ?_
    exact ps_reti rfl (⟨I65, R66, rfl, hR67, hEI73, hER74, hi70, hC_71⟩)
  · have c_14 : ¬ ((nI (c + 20)) ≤ 65540) := of_decide_eq_false c_14
    have n_14 : ¬ (c + 20 ≤ 65540) := fun h9 => c_14 ((le_nI (p := c + 20) (n := 65540) (by omega) (by decide)).mpr h9)
    refine ps_st (S' := (18, [(0, .ref m0), (1, .int x1), (2, .int x2), (3, .int x3), (4, .int x4), (5, .int x5)], [.ref m0], M1)) rfl rfl rfl ?_
    refine ps_st (S' := (19, [(0, .ref m0), (1, .int x1), (2, .int x2), (3, .int x3), (4, .int x4), (5, .int x5)], [.int 1, .ref m0], M1)) rfl rfl rfl ?_
    refine pr_put (j := 0) rfl hR3 rfl (fun M75 I76 hR77 hi78 hI79 => ?_)
    have hi80 := (hI79 19 (by decide)).trans hi6
    have hC_81 := hC_7.mono (pIx hI79 (by decide)) (fun _ _ => rfl)
    have hEI82 := hEI8.put hI79 (by decide)
    show pl _ _ _ (22, [(0, .ref m0), (1, .int x1), (2, .int x2), (3, .int x3), (4, .int x4), (5, .int x5)], [], M75) _
    refine ps_st (S' := (23, [(0, .ref m0), (1, .int x1), (2, .int x2), (3, .int x3), (4, .int x4), (5, .int x5)], [.int 0], M75)) rfl rfl rfl ?_
    exact ps_ret rfl rfl (absurd hc (by omega))
set_option maxHeartbeats 1000000 in
theorem rd_bad {g : xe_G} {m0 : Nat} {q : Nat → Nat} {z : Nat × Nat} {I : rI} {R : rR} {M : mi_H}  (hR : RS g m0 q z I R M)    : pt (mT g) 182 [.ref m0] M (fun v M' => (∃  (I' : rI) (R' : rR), v = some (.int 0) ∧ RS g m0 q z I' R' M' ∧ eqI [0] I I' ∧ eqR [] R R' ∧ I' 0 = some 1)) := by
  refine pt_in (b := mb_182 g) rfl (fun kf => ?_)
  show pl (mT g) kf (mb_182 g).2 (0, [(0, .ref m0)], [], M) _
  have hEI : eqI [0] I I := eqI.rf
  have hER : eqR [] R R := eqR.rf
  refine ps_st (S' := (1, [(0, .ref m0)], [.ref m0], M)) rfl rfl rfl ?_
  refine ps_st (S' := (2, [(0, .ref m0)], [.int 1, .ref m0], M)) rfl rfl rfl ?_
  refine pr_put (j := 0) rfl hR rfl (fun M1 I2 hR3 hi4 hI5 => ?_)
  have hEI6 := hEI.put hI5 (by decide)
  show pl _ _ _ (5, [(0, .ref m0)], [], M1) _
  refine ps_st (S' := (6, [(0, .ref m0)], [.int 0], M1)) rfl rfl rfl ?_
  exact ps_ret rfl rfl (⟨I2, R, rfl, hR3, hEI6, hER, hi4⟩)
set_option maxHeartbeats 1000000 in
theorem rd_endok {g : xe_G} {m0 : Nat} {q : Nat → Nat} {z : Nat × Nat} {I : rI} {R : rR} {M : mi_H} {c k : Nat} {C : Nat → Int32} (hR : RS g m0 q z I R M) (hi19 : I 19 = some (nI c)) (hC : BX 15 c C I R) (hc : c ≤ 65540) (hk : k ≤ c) : pt (mT g) 202 [.ref m0, .int (nI k)] M (fun v M' => (∃  (I' : rI) (R' : rR), v = some (.int (nI k)) ∧ RS g m0 q z I' R' M' ∧ eqI [0, 17, 19] I I' ∧ eqR [13] R R' ∧ I' 17 = some (nI k) ∧ I' 19 = some (nI 0) ∧ BX 13 k C I' R')) := by
  refine pt_in (b := mb_202 g) rfl (fun kf => ?_)
  show pl (mT g) kf (mb_202 g).2 (0, [(0, .ref m0), (1, .int (nI k))], [], M) _
  have hEI : eqI [0, 17, 19] I I := eqI.rf
  have hER : eqR [13] R R := eqR.rf
  have LL : ∀ (kf : Nat), (∀ (i : Nat) (M1 : mi_H) (I1 : rI) (R1 : rR), (RS g m0 q z I1 R1 M1) → (eqI [0, 17, 19] I I1) → (eqR [13] R R1) → (BX 15 c C I1 R1) → (BX 13 i C I1 R1) → (i ≤ k) →  pl (mT g) kf (mb_202 g).2 (24, [(0, .ref m0), (1, .int (nI k)), (2, .int (nI i))], [], M1) (fun v M' => (∃  (I' : rI) (R' : rR), v = some (.int (nI k)) ∧ RS g m0 q z I' R' M' ∧ eqI [0, 17, 19] I I' ∧ eqR [13] R R' ∧ I' 17 = some (nI k) ∧ I' 19 = some (nI 0) ∧ BX 13 k C I' R'))) := by
    intro kf
    induction kf with
    | zero => exact (by intros; exact pl_0)
    | succ kf ih =>
      intro i M1 I1 R1 hR1 hEI1 hER1 hC1 hB1 hi
      refine ps_st1 (S' := (25, [(0, .ref m0), (1, .int (nI k)), (2, .int (nI i))], [.int (nI i)], M1)) rfl rfl rfl ?_
      refine ps_st (S' := (26, [(0, .ref m0), (1, .int (nI k)), (2, .int (nI i))], [.int (nI k), .int (nI i)], M1)) rfl rfl rfl ?_
      refine ps_if2 (S1 := (47, [(0, .ref m0), (1, .int (nI k)), (2, .int (nI i))], [], M1)) (S2 := (29, [(0, .ref m0), (1, .int (nI k)), (2, .int (nI i))], [], M1)) rfl rfl rfl (fun c_26 => ?_) (fun c_26 => ?_)
      · have c_26 : (nI k) ≤ (nI i) := of_decide_eq_true c_26
        have n_26 : k ≤ i := (le_nI (p := k) (n := i) (by omega) (by omega)).mp c_26
        refine ps_st (S' := (48, [(0, .ref m0), (1, .int (nI k)), (2, .int (nI i))], [.ref m0], M1)) rfl rfl rfl ?_
        refine ps_st (S' := (49, [(0, .ref m0), (1, .int (nI k)), (2, .int (nI i))], [.int (nI k), .ref m0], M1)) rfl rfl rfl ?_
        refine pr_put (j := 17) rfl hR1 rfl (fun M1 I2 hR3 hi4 hI5 => ?_)
        have hC_6 := hC1.mono (pIx hI5 (by decide)) (fun _ _ => rfl)
        have hB_7 := hB1.mono (pIx hI5 (by decide)) (fun _ _ => rfl)
        have hEI8 := hEI1.put hI5 (by decide)
        show pl _ _ _ (52, [(0, .ref m0), (1, .int (nI k)), (2, .int (nI i))], [], M1) _
        refine ps_st (S' := (53, [(0, .ref m0), (1, .int (nI k)), (2, .int (nI i))], [.ref m0], M1)) rfl rfl rfl ?_
        refine ps_st (S' := (54, [(0, .ref m0), (1, .int (nI k)), (2, .int (nI i))], [.int 0, .ref m0], M1)) rfl rfl rfl ?_
        refine pr_put (j := 19) rfl hR3 rfl (fun M9 I10 hR11 hi12 hI13 => ?_)
        have hi14 := (hI13 17 (by decide)).trans hi4
        have hC_15 := hC_6.mono (pIx hI13 (by decide)) (fun _ _ => rfl)
        have hB_16 := hB_7.mono (pIx hI13 (by decide)) (fun _ _ => rfl)
        have hEI17 := hEI8.put hI13 (by decide)
        show pl _ _ _ (57, [(0, .ref m0), (1, .int (nI k)), (2, .int (nI i))], [], M9) _
        refine ps_st (S' := (58, [(0, .ref m0), (1, .int (nI k)), (2, .int (nI i))], [.int (nI k)], M9)) rfl rfl rfl ?_
        exact ps_reti rfl (⟨I10, R1, rfl, hR11, hEI17, hER1, hi14, hi12, BX.le hB_16 (by omega)⟩)
      · have c_26 : ¬ ((nI k) ≤ (nI i)) := of_decide_eq_false c_26
        have n_26 : ¬ (k ≤ i) := fun h9 => c_26 ((le_nI (p := k) (n := i) (by omega) (by omega)).mpr h9)
        refine ps_st (S' := (30, [(0, .ref m0), (1, .int (nI k)), (2, .int (nI i))], [.ref m0], M1)) rfl rfl rfl ?_
        refine pr_ref (j := 13) (S' := (33, [(0, .ref m0), (1, .int (nI k)), (2, .int (nI i))], [.ref (q 13)], M1)) rfl hR1 rfl rfl ?_
        refine ps_st (S' := (34, [(0, .ref m0), (1, .int (nI k)), (2, .int (nI i))], [.int (nI i), .ref (q 13)], M1)) rfl rfl rfl ?_
        refine ps_st (S' := (35, [(0, .ref m0), (1, .int (nI k)), (2, .int (nI i))], [.ref m0, .int (nI i), .ref (q 13)], M1)) rfl rfl rfl ?_
        refine pr_ref (j := 15) (S' := (38, [(0, .ref m0), (1, .int (nI k)), (2, .int (nI i))], [.ref (q 15), .int (nI i), .ref (q 13)], M1)) rfl hR1 rfl rfl ?_
        refine ps_st (S' := (39, [(0, .ref m0), (1, .int (nI k)), (2, .int (nI i))], [.int (nI i), .ref (q 15), .int (nI i), .ref (q 13)], M1)) rfl rfl rfl ?_
        refine pr_ld (a := 15) (j := i) (y := (C i)) (S' := (40, [(0, .ref m0), (1, .int (nI k)), (2, .int (nI i))], [.int (C i), .int (nI i), .ref (q 13)], M1)) rfl hR1 rfl (by omega) (fun _ => (hC1 i (by omega)).1) rfl (fun i1_39 => ?_)
        refine pr_st (a := 13) (j := i) rfl hR1 rfl (by omega) (fun M18 R19 i1_40 hR20 hS21 => ?_)
        have hC_22 := hC1.mono (fun _ _ => rfl) (rRx hS21 (by decide))
        have hER23 := hER1.st hS21 (by decide)
        show pl _ _ _ (41, [(0, .ref m0), (1, .int (nI k)), (2, .int (nI i))], [], M18) _
        have hB_24 : BX 13 (i + 1) C I1 R19 := BX.st hB1 hS21 (hC1 i (by omega)).2 rfl
        refine ps_st (S' := (44, [(2, .int ((nI i) + 1)), (0, .ref m0), (1, .int (nI k))], [], M18)) rfl rfl rfl ?_
        rw [nI_add1 (p := i) (k := 1) (x := 1) rfl (by omega)]
        show pl _ _ _ (_, [(2, .int (nI (i + 1))), (0, .ref m0), (1, .int (nI k))], [], M18) _
        refine ps_st (S' := (24, [(0, .ref m0), (1, .int (nI k)), (2, .int (nI (i + 1)))], [], M18)) rfl rfl rfl ?_
        exact ih (i + 1) M18 I1 R19 hR20 hEI1 hER23 hC_22 hB_24 (by omega)
  refine ps_st (S' := (1, [(0, .ref m0), (1, .int (nI k))], [.ref m0], M)) rfl rfl rfl ?_
  refine ps_st (S' := (2, [(0, .ref m0), (1, .int (nI k))], [.int 0, .ref m0], M)) rfl rfl rfl ?_
  refine pr_put (j := 0) rfl hR rfl (fun M25 I26 hR27 hi28 hI29 => ?_)
  have hi30 := (hI29 19 (by decide)).trans hi19
  have hC_31 := hC.mono (pIx hI29 (by decide)) (fun _ _ => rfl)
  have hEI32 := hEI.put hI29 (by decide)
  show pl _ _ _ (5, [(0, .ref m0), (1, .int (nI k))], [], M25) _
  refine ps_st (S' := (6, [(0, .ref m0), (1, .int (nI k))], [.int (nI k)], M25)) rfl rfl rfl ?_
  refine ps_if (S1 := (17, [(0, .ref m0)], [], M25)) (S2 := (9, [(0, .ref m0), (1, .int (nI k))], [], M25)) rfl rfl rfl (fun c_6 => ?_) (fun c_6 => ?_)
  · exact absurd (of_decide_eq_true c_6) (show ¬ ((nI k) < 0) from fun h9 => absurd ((lt_nI (p := k) (n := 0) (by omega) (by decide)).mp h9) (by omega))
  refine ps_st (S' := (10, [(0, .ref m0), (1, .int (nI k))], [.int (nI k)], M25)) rfl rfl rfl ?_
  refine ps_st (S' := (11, [(0, .ref m0), (1, .int (nI k))], [.ref m0, .int (nI k)], M25)) rfl rfl rfl ?_
  refine pr_int (j := 19) (S' := (14, [(0, .ref m0), (1, .int (nI k))], [.int (nI c), .int (nI k)], M25)) rfl hR27 rfl hi30 rfl ?_
  refine ps_if2 (S1 := (22, [(0, .ref m0), (1, .int (nI k))], [], M25)) (S2 := (17, [(0, .ref m0)], [], M25)) rfl rfl rfl (fun c_14 => ?_) (fun c_14 => ?_)
  · have c_14 : (nI k) ≤ (nI c) := of_decide_eq_true c_14
    have n_14 : k ≤ c := (le_nI (p := k) (n := c) (by omega) (by omega)).mp c_14
    refine ps_st (S' := (23, [(0, .ref m0), (1, .int (nI k))], [.int 0], M25)) rfl rfl rfl ?_
    refine ps_st (S' := (24, [(0, .ref m0), (1, .int (nI k)), (2, .int 0)], [], M25)) rfl rfl rfl ?_
    have hB0 : BX 13 0 C I26 R := fun i9 h9 => absurd h9 (Nat.not_lt_zero _)
    exact (LL kf) (0) M25 I26 R hR27 hEI32 hER hC_31 hB0 (by omega)
  · have c_14 : ¬ ((nI k) ≤ (nI c)) := of_decide_eq_false c_14
    have n_14 : ¬ (k ≤ c) := fun h9 => c_14 ((le_nI (p := k) (n := c) (by omega) (by omega)).mpr h9)
    refine ps_st (S' := (18, [(0, .ref m0)], [.ref m0], M25)) rfl rfl rfl ?_
    refine pl_call (a := [.ref m0]) (rest := []) rfl rfl rfl (rd_bad hR27) (fun v33 M34 q35 => ?_)
    obtain ⟨I36, R37, rfl, hR38, hI39, hX40, hi41⟩ := q35
    have hi42 := (hI39 19 (by decide)).trans hi30
    have hC_43 := hC_31.mono (cIx hI39 (by decide)) (cRx hX40 (by decide))
    have hEI44 := hEI32.tr hI39 (by decide)
    have hER45 := hER.tr hX40 (by decide)
    show pl _ _ _ (21, [(0, .ref m0)], [.int 0], M34) _
    exact ps_ret rfl rfl (absurd hk (by omega))
set_option maxHeartbeats 1000000 in
theorem rd_endno {g : xe_G} {m0 : Nat} {q : Nat → Nat} {z : Nat × Nat} {I : rI} {R : rR} {M : mi_H} {c : Nat} {x1 : Int32} (hR : RS g m0 q z I R M) (hi19 : I 19 = some (nI c))  (hc : c ≤ 65540) (hbad : x1 < 0 ∨ ¬ x1 ≤ nI c) : pt (mT g) 202 [.ref m0, .int x1] M (fun v M' => (∃  (I' : rI) (R' : rR), v = some (.int 0) ∧ RS g m0 q z I' R' M' ∧ eqI [0] I I' ∧ eqR [] R R')) := by
  refine pt_in (b := mb_202 g) rfl (fun kf => ?_)
  show pl (mT g) kf (mb_202 g).2 (0, [(0, .ref m0), (1, .int x1)], [], M) _
  have hEI : eqI [0] I I := eqI.rf
  have hER : eqR [] R R := eqR.rf
  refine ps_st (S' := (1, [(0, .ref m0), (1, .int x1)], [.ref m0], M)) rfl rfl rfl ?_
  refine ps_st (S' := (2, [(0, .ref m0), (1, .int x1)], [.int 0, .ref m0], M)) rfl rfl rfl ?_
  refine pr_put (j := 0) rfl hR rfl (fun M1 I2 hR3 hi4 hI5 => ?_)
  have hi6 := (hI5 19 (by decide)).trans hi19
  have hEI7 := hEI.put hI5 (by decide)
  show pl _ _ _ (5, [(0, .ref m0), (1, .int x1)], [], M1) _
  refine ps_st (S' := (6, [(0, .ref m0), (1, .int x1)], [.int x1], M1)) rfl rfl rfl ?_
  refine ps_if (S1 := (17, [(0, .ref m0)], [], M1)) (S2 := (9, [(0, .ref m0), (1, .int x1)], [], M1)) rfl rfl rfl (fun c_6 => ?_) (fun c_6 => ?_)
  · have c_6 : x1 < 0 := of_decide_eq_true c_6
    refine ps_st (S' := (18, [(0, .ref m0)], [.ref m0], M1)) rfl rfl rfl ?_
    refine pl_call (a := [.ref m0]) (rest := []) rfl rfl rfl (rd_bad hR3) (fun v8 M9 q10 => ?_)
    obtain ⟨I11, R12, rfl, hR13, hI14, hX15, hi16⟩ := q10
    have hi17 := (hI14 19 (by decide)).trans hi6
    have hEI18 := hEI7.tr hI14 (by decide)
    have hER19 := hER.tr hX15 (by decide)
    show pl _ _ _ (21, [(0, .ref m0)], [.int 0], M9) _
    exact ps_ret rfl rfl (⟨I11, R12, rfl, hR13, hEI18, hER19⟩)
  · have c_6 : ¬ (x1 < 0) := of_decide_eq_false c_6
    refine ps_st (S' := (10, [(0, .ref m0), (1, .int x1)], [.int x1], M1)) rfl rfl rfl ?_
    refine ps_st (S' := (11, [(0, .ref m0), (1, .int x1)], [.ref m0, .int x1], M1)) rfl rfl rfl ?_
    refine pr_int (j := 19) (S' := (14, [(0, .ref m0), (1, .int x1)], [.int (nI c), .int x1], M1)) rfl hR3 rfl hi6 rfl ?_
    refine ps_if2 (S1 := (22, [(0, .ref m0), (1, .int x1)], [], M1)) (S2 := (17, [(0, .ref m0)], [], M1)) rfl rfl rfl (fun c_14 => ?_) (fun c_14 => ?_)
    · have c_14 : x1 ≤ (nI c) := of_decide_eq_true c_14
      exfalso
      rcases hbad with h9 | h9
      · exact absurd h9 (by assumption)
      · exact h9 (by assumption)
    · have c_14 : ¬ (x1 ≤ (nI c)) := of_decide_eq_false c_14
      refine ps_st (S' := (18, [(0, .ref m0)], [.ref m0], M1)) rfl rfl rfl ?_
      refine pl_call (a := [.ref m0]) (rest := []) rfl rfl rfl (rd_bad hR3) (fun v20 M21 q22 => ?_)
      obtain ⟨I23, R24, rfl, hR25, hI26, hX27, hi28⟩ := q22
      have hi29 := (hI26 19 (by decide)).trans hi6
      have hEI30 := hEI7.tr hI26 (by decide)
      have hER31 := hER.tr hX27 (by decide)
      show pl _ _ _ (21, [(0, .ref m0)], [.int 0], M21) _
      exact ps_ret rfl rfl (⟨I23, R24, rfl, hR25, hEI30, hER31⟩)
set_option maxHeartbeats 1000000 in
theorem rd_place {g : xe_G} {m0 : Nat} {q : Nat → Nat} {z : Nat × Nat} {I : rI} {R : rR} {M : mi_H} {lp : Int32} (hR : RS g m0 q z I R M) (hi73 : I 73 = some lp)   : pt (mT g) 231 [.ref m0] M (fun v M' => (∃  (I' : rI) (R' : rR), v = some (.int lp) ∧ RS g m0 q z I' R' M' ∧ eqI [0] I I' ∧ eqR [] R R')) := by
  refine pt_in (b := mb_231 g) rfl (fun kf => ?_)
  show pl (mT g) kf (mb_231 g).2 (0, [(0, .ref m0)], [], M) _
  have hEI : eqI [0] I I := eqI.rf
  have hER : eqR [] R R := eqR.rf
  refine ps_st (S' := (1, [(0, .ref m0)], [.ref m0], M)) rfl rfl rfl ?_
  refine ps_st (S' := (2, [(0, .ref m0)], [.int 0, .ref m0], M)) rfl rfl rfl ?_
  refine pr_put (j := 0) rfl hR rfl (fun M1 I2 hR3 hi4 hI5 => ?_)
  have hi6 := (hI5 73 (by decide)).trans hi73
  have hEI7 := hEI.put hI5 (by decide)
  show pl _ _ _ (5, [(0, .ref m0)], [], M1) _
  refine ps_st (S' := (6, [(0, .ref m0)], [.ref m0], M1)) rfl rfl rfl ?_
  refine pr_int (j := 73) (S' := (9, [(0, .ref m0)], [.int lp], M1)) rfl hR3 rfl hi6 rfl ?_
  exact ps_reti rfl (⟨I2, R, rfl, hR3, hEI7, hER⟩)
