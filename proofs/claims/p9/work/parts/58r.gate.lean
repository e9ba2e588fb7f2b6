/-! the gate takes bytes, ends and reads a file (laid by wip/p2/c58.py) -/
set_option maxHeartbeats 2000000 in
theorem tq_takeWord {g : xe_G} {M : mi_H} {Y : yT} {x cm fl B m n : Nat} {cc wp : Int32} {kv : Value} {x1 : Int32} (hW : WF g Y M) (hx : M.1 x = some (ob 11 [.ref cm, .int cc, .ref fl, kv, .int wp])) (hxn : Y.1 x = none) (hxl : x < M.2.1) (hlit : ∀ i, i < 15 → g.2.1 i ≠ x) (hst : Y.1 g.1 = some (24, [0])) (hcm : Y.1 cm = some (20, [m])) (hm : m < 1073741824) (hmf : 4 ≤ m) (hmb : m ≤ 60000000) (hc0 : 0 ≤ cc.toInt) (hcm2 : cc.toInt ≤ m) {d : Nat} (hd : 2 ≤ d) : mt (mT g) d 20 [.ref x, .int x1] M (fun v M' => v = none ∧ ∃ Y' cm' m', sg g Y M Y' M' 1 (2 * (m' - m)) ∧ M'.1 x = some (ob 11 [.ref cm', .int (cc + 4), .ref fl, kv, .int wp]) ∧ Y'.1 cm' = some (20, [m']) ∧ Gr m m' cc.toInt ∧ cc.toInt + 4 ≤ m') := by
  obtain ⟨d, rfl⟩ : ∃ e, d = e + 1 := ⟨d - 1, by omega⟩
  refine mt_in (b := mb_20 g) rfl rfl ?_
  show ml (mT g) d (mb_20 g).2 (0, [(0, .ref x), (1, .int x1)], [], M) _
  have hS : st g Y M M := st.rf hW
  have hA := sa.rf hW
  refine ml_st (S' := (1, [(0, .ref x), (1, .int x1)], [.ref x], M)) rfl rfl rfl ?_
  refine mo_get (S' := (4, [(0, .ref x), (1, .int x1)], [.ref cm], M)) rfl ((hS.2.2 x ((hA.2.2.1 x hxl).trans hxn)).trans ((hA.2.2.2.2 x hxn hxl).trans hx)) rfl rfl ?_
  refine tl_row (k := 20) (ty := .byte) (S' := (5, [(0, .ref x), (1, .int x1)], [.int (nI m)], M)) rfl hS.1 hcm rfl rfl ?_
  refine ml_st (S' := (6, [(0, .ref x), (1, .int x1)], [.ref x, .int (nI m)], M)) rfl rfl rfl ?_
  refine mo_get (S' := (9, [(0, .ref x), (1, .int x1)], [.int cc, .int (nI m)], M)) rfl ((hS.2.2 x ((hA.2.2.1 x hxl).trans hxn)).trans ((hA.2.2.2.2 x hxn hxl).trans hx)) rfl rfl ?_
  refine ml_blk 2 (S' := (11, [(0, .ref x), (1, .int x1)], [.int 4, .int ((nI m) - cc)], M)) rfl ?_
  refine ml_if2 (S1 := (32, [(0, .ref x), (1, .int x1)], [], M)) (S2 := (14, [(0, .ref x), (1, .int x1)], [], M)) rfl rfl rfl (fun c_11 => ?_) (fun c_11 => ?_)
  · have c_11 : 4 ≤ ((nI m) - cc) := of_decide_eq_true c_11
    have hroom : cc.toInt + 4 ≤ (m : Int) := by have q := i_le c_11; rw [i_sub (by rw [nI_val hm]; omega) (by rw [nI_val hm]; omega), nI_val hm] at q; have : (4 : Int32).toInt = 4 := rfl; omega
    have hrm := hS.1.rlen hcm (ty := .byte) rfl
    refine ml_st (S' := (33, [(0, .ref x), (1, .int x1)], [.ref x], M)) rfl rfl rfl ?_
    refine mo_get (S' := (36, [(0, .ref x), (1, .int x1)], [.ref cm], M)) rfl ((hS.2.2 x ((hA.2.2.1 x hxl).trans hxn)).trans ((hA.2.2.2.2 x hxn hxl).trans hx)) rfl rfl ?_
    refine ml_st (S' := (37, [(0, .ref x), (1, .int x1)], [.ref x, .ref cm], M)) rfl rfl rfl ?_
    refine mo_get (S' := (40, [(0, .ref x), (1, .int x1)], [.int cc, .ref cm], M)) rfl ((hS.2.2 x ((hA.2.2.1 x hxl).trans hxn)).trans ((hA.2.2.2.2 x hxn hxl).trans hx)) rfl rfl ?_
    refine ml_blk 3 (S' := (44, [(0, .ref x), (1, .int x1)], [.int (((Int32.toUInt32 x1) >>> ((Int32.toUInt32 24) &&& Int32.toUInt32 31)).toInt32), .int cc, .ref cm], M)) rfl ?_
    refine ml_st (S' := (45, [(0, .ref x), (1, .int x1)], [.int ((((Int32.toUInt32 x1) >>> ((Int32.toUInt32 24) &&& Int32.toUInt32 31)).toInt32).toInt8.toInt32), .int cc, .ref cm], M)) rfl rfl rfl ?_
    refine ts_byte rfl hS hcm (tk_i0 hc0 hroom hrm) (fits_b _) (fun M1 hS2 => ?_)
    show ml _ _ _ (46, [(0, .ref x), (1, .int x1)], [], M1) _
    refine ml_st (S' := (47, [(0, .ref x), (1, .int x1)], [.ref x], M1)) rfl rfl rfl ?_
    refine mo_get (S' := (50, [(0, .ref x), (1, .int x1)], [.ref cm], M1)) rfl ((hS2.2.2 x ((hA.2.2.1 x hxl).trans hxn)).trans ((hA.2.2.2.2 x hxn hxl).trans hx)) rfl rfl ?_
    refine ml_st (S' := (51, [(0, .ref x), (1, .int x1)], [.ref x, .ref cm], M1)) rfl rfl rfl ?_
    refine mo_get (S' := (54, [(0, .ref x), (1, .int x1)], [.int cc, .ref cm], M1)) rfl ((hS2.2.2 x ((hA.2.2.1 x hxl).trans hxn)).trans ((hA.2.2.2.2 x hxn hxl).trans hx)) rfl rfl ?_
    refine ml_blk 3 (S' := (57, [(0, .ref x), (1, .int x1)], [.int x1, .int (cc + 1), .ref cm], M1)) rfl ?_
    refine ml_blk 3 (S' := (61, [(0, .ref x), (1, .int x1)], [.int ((((Int32.toUInt32 x1) >>> ((Int32.toUInt32 16) &&& Int32.toUInt32 31)).toInt32).toInt8.toInt32), .int (cc + 1), .ref cm], M1)) rfl ?_
    refine ts_byte rfl hS2 hcm (tk_i hc0 hroom hrm (by decide) (by decide)) (fits_b _) (fun M3 hS4 => ?_)
    show ml _ _ _ (62, [(0, .ref x), (1, .int x1)], [], M3) _
    refine ml_st (S' := (63, [(0, .ref x), (1, .int x1)], [.ref x], M3)) rfl rfl rfl ?_
    refine mo_get (S' := (66, [(0, .ref x), (1, .int x1)], [.ref cm], M3)) rfl ((hS4.2.2 x ((hA.2.2.1 x hxl).trans hxn)).trans ((hA.2.2.2.2 x hxn hxl).trans hx)) rfl rfl ?_
    refine ml_st (S' := (67, [(0, .ref x), (1, .int x1)], [.ref x, .ref cm], M3)) rfl rfl rfl ?_
    refine mo_get (S' := (70, [(0, .ref x), (1, .int x1)], [.int cc, .ref cm], M3)) rfl ((hS4.2.2 x ((hA.2.2.1 x hxl).trans hxn)).trans ((hA.2.2.2.2 x hxn hxl).trans hx)) rfl rfl ?_
    refine ml_blk 3 (S' := (73, [(0, .ref x), (1, .int x1)], [.int x1, .int (cc + 2), .ref cm], M3)) rfl ?_
    refine ml_blk 3 (S' := (77, [(0, .ref x), (1, .int x1)], [.int ((((Int32.toUInt32 x1) >>> ((Int32.toUInt32 8) &&& Int32.toUInt32 31)).toInt32).toInt8.toInt32), .int (cc + 2), .ref cm], M3)) rfl ?_
    refine ts_byte rfl hS4 hcm (tk_i hc0 hroom hrm (by decide) (by decide)) (fits_b _) (fun M5 hS6 => ?_)
    show ml _ _ _ (78, [(0, .ref x), (1, .int x1)], [], M5) _
    refine ml_st (S' := (79, [(0, .ref x), (1, .int x1)], [.ref x], M5)) rfl rfl rfl ?_
    refine mo_get (S' := (82, [(0, .ref x), (1, .int x1)], [.ref cm], M5)) rfl ((hS6.2.2 x ((hA.2.2.1 x hxl).trans hxn)).trans ((hA.2.2.2.2 x hxn hxl).trans hx)) rfl rfl ?_
    refine ml_st (S' := (83, [(0, .ref x), (1, .int x1)], [.ref x, .ref cm], M5)) rfl rfl rfl ?_
    refine mo_get (S' := (86, [(0, .ref x), (1, .int x1)], [.int cc, .ref cm], M5)) rfl ((hS6.2.2 x ((hA.2.2.1 x hxl).trans hxn)).trans ((hA.2.2.2.2 x hxn hxl).trans hx)) rfl rfl ?_
    refine ml_blk 3 (S' := (89, [(0, .ref x), (1, .int x1)], [.int x1, .int (cc + 3), .ref cm], M5)) rfl ?_
    refine ml_st (S' := (90, [(0, .ref x), (1, .int x1)], [.int (x1.toInt8.toInt32), .int (cc + 3), .ref cm], M5)) rfl rfl rfl ?_
    refine ts_byte rfl hS6 hcm (tk_i hc0 hroom hrm (by decide) (by decide)) (fits_b _) (fun M7 hS8 => ?_)
    show ml _ _ _ (91, [(0, .ref x), (1, .int x1)], [], M7) _
    refine ml_blk 2 (S' := (93, [(0, .ref x), (1, .int x1)], [.ref x, .ref x], M7)) rfl ?_
    refine mo_get (S' := (96, [(0, .ref x), (1, .int x1)], [.int cc, .ref x], M7)) rfl ((hS8.2.2 x ((hA.2.2.1 x hxl).trans hxn)).trans ((hA.2.2.2.2 x hxn hxl).trans hx)) rfl rfl ?_
    refine ml_blk 2 (S' := (98, [(0, .ref x), (1, .int x1)], [.int (cc + 4), .ref x], M7)) rfl ?_
    refine gx_put (l' := [.ref cm, .int (cc + 4), .ref fl, kv, .int wp]) rfl ((hS8.2.2 x ((hA.2.2.1 x hxl).trans hxn)).trans ((hA.2.2.2.2 x hxn hxl).trans hx)) rfl rfl rfl hS8.1 ((hA.2.2.1 x hxl).trans hxn) hlit (fun M9 hs10 hc11 hm12 hf13 => ?_)
    have hG14 := ((hA.st hS8).sg).tr hs10
    have hxn15 := (hG14.2.2.1 x hxl).trans hxn
    have hxl16 := Nat.lt_of_lt_of_le hxl hG14.2.2.2.1
    have hA17 := sa.rf hG14.1
    have hS18 := st.rf hG14.1
    show ml _ _ _ (101, [(0, .ref x), (1, .int x1)], [], M9) _
    exact ml_ret rfl (rfl) (⟨rfl, Y, cm, m, (hG14.tr (hA17.st hS18).sg).le (by omega) (by omega), ((hS18.2.2 x ((hA17.2.2.1 x hxl16).trans hxn15)).trans ((hA17.2.2.2.2 x hxn15 hxl16).trans hc11)), hcm, ⟨Or.inl rfl, Nat.le_refl _, id⟩, hroom⟩)
  · have c_11 : ¬ (4 ≤ ((nI m) - cc)) := of_decide_eq_false c_11
    refine ml_blk 2 (S' := (16, [(0, .ref x), (1, .int x1)], [.ref x, .ref x], M)) rfl ?_
    refine mo_get (S' := (19, [(0, .ref x), (1, .int x1)], [.ref cm, .ref x], M)) rfl ((hS.2.2 x ((hA.2.2.1 x hxl).trans hxn)).trans ((hA.2.2.2.2 x hxn hxl).trans hx)) rfl rfl ?_
    refine ml_st (S' := (20, [(0, .ref x), (1, .int x1)], [.ref x, .ref cm, .ref x], M)) rfl rfl rfl ?_
    refine mo_get (S' := (23, [(0, .ref x), (1, .int x1)], [.ref cm, .ref cm, .ref x], M)) rfl ((hS.2.2 x ((hA.2.2.1 x hxl).trans hxn)).trans ((hA.2.2.2.2 x hxn hxl).trans hx)) rfl rfl ?_
    refine tl_row (k := 20) (ty := .byte) (S' := (24, [(0, .ref x), (1, .int x1)], [.int (nI m), .ref cm, .ref x], M)) rfl hS.1 hcm rfl rfl ?_
    refine ml_blk 2 (S' := (26, [(0, .ref x), (1, .int x1)], [.int ((nI m) * 2), .ref cm, .ref x], M)) rfl ?_
    obtain ⟨fc, hfc, hfit, -, hcl⟩ := hS.1.gst hcm
    have e2 : (nI m * 2).toInt = 2 * (m : Int) := by rw [i_mul (by rw [nI_val hm, show (2 : Int32).toInt = 2 from rfl]; omega) (by rw [nI_val hm, show (2 : Int32).toInt = 2 from rfl]; omega), nI_val hm, show (2 : Int32).toInt = 2 from rfl]; omega
    have e2n : (nI m * 2).toNatClampNeg = 2 * m := by show (nI m * 2).toInt.toNat = _; omega
    refine ml_call (a := [.ref cm, .int (nI m * 2)]) (rest := [.ref x]) rfl rfl rfl rfl (ct_copyOf hfc hfit (ykne hcm hst (by decide)) (Nat.ne_of_gt (hS.1.2.1 _ _ hst)) (by omega) (by omega) hm (fun q => by rw [q, nI_val hm] at e2; omega) hcl (by omega)) (fun v9 M9 h9 => ?_)
    obtain ⟨rfl, f9, hf9, rfl⟩ := h9
    show ml _ _ _ (29, [(0, .ref x), (1, .int x1)], [.ref M.2.1, .ref x], (mk1 M (ar .byte (nI m * 2).toNatClampNeg f9) (nI m * 2).toNatClampNeg)) _
    refine mm_row (kr := 20) (pr := [(nI m * 2).toNatClampNeg]) hS.1 (okY_came (by omega) hf9) (fun Y19 M20 b21 _ h22 h23 h24 f25 => ?_)
    have hA26 := (hA.st hS).tr h22.sa
    have hS27 := st.rf hA26.1
    have h28 := (h22.2.1 _ _ hst).1
    have h29 := (h22.2.1 _ _ hcm).1
    have hroomB : cc.toInt + 4 ≤ (((nI m * 2).toNatClampNeg : Nat) : Int) := by omega
    show ml _ _ _ (29, [(0, .ref x), (1, .int x1)], [.ref b21, .ref x], M20) _
    refine gx_put (l' := [.ref b21, .int cc, .ref fl, kv, .int wp]) rfl ((hS27.2.2 x ((hA26.2.2.1 x hxl).trans hxn)).trans ((hA26.2.2.2.2 x hxn hxl).trans hx)) rfl rfl rfl hS27.1 ((hA26.2.2.1 x hxl).trans hxn) hlit (fun M30 hs31 hc32 hm33 hf34 => ?_)
    have hG35 := ((hA26.st hS27).sg).tr hs31
    have hxn36 := (hG35.2.2.1 x hxl).trans hxn
    have hxl37 := Nat.lt_of_lt_of_le hxl hG35.2.2.2.1
    have hA38 := sa.rf hG35.1
    have hS39 := st.rf hG35.1
    show ml _ _ _ (32, [(0, .ref x), (1, .int x1)], [], M30) _
    have hroom := hroomB
    have hrm := hS39.1.rlen h23 (ty := .byte) rfl
    refine ml_st (S' := (33, [(0, .ref x), (1, .int x1)], [.ref x], M30)) rfl rfl rfl ?_
    refine mo_get (S' := (36, [(0, .ref x), (1, .int x1)], [.ref b21], M30)) rfl ((hS39.2.2 x ((hA38.2.2.1 x hxl37).trans hxn36)).trans ((hA38.2.2.2.2 x hxn36 hxl37).trans hc32)) rfl rfl ?_
    refine ml_st (S' := (37, [(0, .ref x), (1, .int x1)], [.ref x, .ref b21], M30)) rfl rfl rfl ?_
    refine mo_get (S' := (40, [(0, .ref x), (1, .int x1)], [.int cc, .ref b21], M30)) rfl ((hS39.2.2 x ((hA38.2.2.1 x hxl37).trans hxn36)).trans ((hA38.2.2.2.2 x hxn36 hxl37).trans hc32)) rfl rfl ?_
    refine ml_blk 3 (S' := (44, [(0, .ref x), (1, .int x1)], [.int (((Int32.toUInt32 x1) >>> ((Int32.toUInt32 24) &&& Int32.toUInt32 31)).toInt32), .int cc, .ref b21], M30)) rfl ?_
    refine ml_st (S' := (45, [(0, .ref x), (1, .int x1)], [.int ((((Int32.toUInt32 x1) >>> ((Int32.toUInt32 24) &&& Int32.toUInt32 31)).toInt32).toInt8.toInt32), .int cc, .ref b21], M30)) rfl rfl rfl ?_
    refine ts_byte rfl hS39 h23 (tk_i0 hc0 hroom hrm) (fits_b _) (fun M40 hS41 => ?_)
    show ml _ _ _ (46, [(0, .ref x), (1, .int x1)], [], M40) _
    refine ml_st (S' := (47, [(0, .ref x), (1, .int x1)], [.ref x], M40)) rfl rfl rfl ?_
    refine mo_get (S' := (50, [(0, .ref x), (1, .int x1)], [.ref b21], M40)) rfl ((hS41.2.2 x ((hA38.2.2.1 x hxl37).trans hxn36)).trans ((hA38.2.2.2.2 x hxn36 hxl37).trans hc32)) rfl rfl ?_
    refine ml_st (S' := (51, [(0, .ref x), (1, .int x1)], [.ref x, .ref b21], M40)) rfl rfl rfl ?_
    refine mo_get (S' := (54, [(0, .ref x), (1, .int x1)], [.int cc, .ref b21], M40)) rfl ((hS41.2.2 x ((hA38.2.2.1 x hxl37).trans hxn36)).trans ((hA38.2.2.2.2 x hxn36 hxl37).trans hc32)) rfl rfl ?_
    refine ml_blk 3 (S' := (57, [(0, .ref x), (1, .int x1)], [.int x1, .int (cc + 1), .ref b21], M40)) rfl ?_
    refine ml_blk 3 (S' := (61, [(0, .ref x), (1, .int x1)], [.int ((((Int32.toUInt32 x1) >>> ((Int32.toUInt32 16) &&& Int32.toUInt32 31)).toInt32).toInt8.toInt32), .int (cc + 1), .ref b21], M40)) rfl ?_
    refine ts_byte rfl hS41 h23 (tk_i hc0 hroom hrm (by decide) (by decide)) (fits_b _) (fun M42 hS43 => ?_)
    show ml _ _ _ (62, [(0, .ref x), (1, .int x1)], [], M42) _
    refine ml_st (S' := (63, [(0, .ref x), (1, .int x1)], [.ref x], M42)) rfl rfl rfl ?_
    refine mo_get (S' := (66, [(0, .ref x), (1, .int x1)], [.ref b21], M42)) rfl ((hS43.2.2 x ((hA38.2.2.1 x hxl37).trans hxn36)).trans ((hA38.2.2.2.2 x hxn36 hxl37).trans hc32)) rfl rfl ?_
    refine ml_st (S' := (67, [(0, .ref x), (1, .int x1)], [.ref x, .ref b21], M42)) rfl rfl rfl ?_
    refine mo_get (S' := (70, [(0, .ref x), (1, .int x1)], [.int cc, .ref b21], M42)) rfl ((hS43.2.2 x ((hA38.2.2.1 x hxl37).trans hxn36)).trans ((hA38.2.2.2.2 x hxn36 hxl37).trans hc32)) rfl rfl ?_
    refine ml_blk 3 (S' := (73, [(0, .ref x), (1, .int x1)], [.int x1, .int (cc + 2), .ref b21], M42)) rfl ?_
    refine ml_blk 3 (S' := (77, [(0, .ref x), (1, .int x1)], [.int ((((Int32.toUInt32 x1) >>> ((Int32.toUInt32 8) &&& Int32.toUInt32 31)).toInt32).toInt8.toInt32), .int (cc + 2), .ref b21], M42)) rfl ?_
    refine ts_byte rfl hS43 h23 (tk_i hc0 hroom hrm (by decide) (by decide)) (fits_b _) (fun M44 hS45 => ?_)
    show ml _ _ _ (78, [(0, .ref x), (1, .int x1)], [], M44) _
    refine ml_st (S' := (79, [(0, .ref x), (1, .int x1)], [.ref x], M44)) rfl rfl rfl ?_
    refine mo_get (S' := (82, [(0, .ref x), (1, .int x1)], [.ref b21], M44)) rfl ((hS45.2.2 x ((hA38.2.2.1 x hxl37).trans hxn36)).trans ((hA38.2.2.2.2 x hxn36 hxl37).trans hc32)) rfl rfl ?_
    refine ml_st (S' := (83, [(0, .ref x), (1, .int x1)], [.ref x, .ref b21], M44)) rfl rfl rfl ?_
    refine mo_get (S' := (86, [(0, .ref x), (1, .int x1)], [.int cc, .ref b21], M44)) rfl ((hS45.2.2 x ((hA38.2.2.1 x hxl37).trans hxn36)).trans ((hA38.2.2.2.2 x hxn36 hxl37).trans hc32)) rfl rfl ?_
    refine ml_blk 3 (S' := (89, [(0, .ref x), (1, .int x1)], [.int x1, .int (cc + 3), .ref b21], M44)) rfl ?_
    refine ml_st (S' := (90, [(0, .ref x), (1, .int x1)], [.int (x1.toInt8.toInt32), .int (cc + 3), .ref b21], M44)) rfl rfl rfl ?_
    refine ts_byte rfl hS45 h23 (tk_i hc0 hroom hrm (by decide) (by decide)) (fits_b _) (fun M46 hS47 => ?_)
    show ml _ _ _ (91, [(0, .ref x), (1, .int x1)], [], M46) _
    refine ml_blk 2 (S' := (93, [(0, .ref x), (1, .int x1)], [.ref x, .ref x], M46)) rfl ?_
    refine mo_get (S' := (96, [(0, .ref x), (1, .int x1)], [.int cc, .ref x], M46)) rfl ((hS47.2.2 x ((hA38.2.2.1 x hxl37).trans hxn36)).trans ((hA38.2.2.2.2 x hxn36 hxl37).trans hc32)) rfl rfl ?_
    refine ml_blk 2 (S' := (98, [(0, .ref x), (1, .int x1)], [.int (cc + 4), .ref x], M46)) rfl ?_
    refine gx_put (l' := [.ref b21, .int (cc + 4), .ref fl, kv, .int wp]) rfl ((hS47.2.2 x ((hA38.2.2.1 x hxl37).trans hxn36)).trans ((hA38.2.2.2.2 x hxn36 hxl37).trans hc32)) rfl rfl rfl hS47.1 ((hA38.2.2.1 x hxl37).trans hxn36) hlit (fun M48 hs49 hc50 hm51 hf52 => ?_)
    have hG53 := (hG35.tr (hA38.st hS47).sg).tr hs49
    have hxn54 := (hG53.2.2.1 x hxl).trans hxn
    have hxl55 := Nat.lt_of_lt_of_le hxl hG53.2.2.2.1
    have hA56 := sa.rf hG53.1
    have hS57 := st.rf hG53.1
    show ml _ _ _ (101, [(0, .ref x), (1, .int x1)], [], M48) _
    exact ml_ret rfl (rfl) (⟨rfl, Y19, b21, (nI m * 2).toNatClampNeg, (hG53.tr (hA56.st hS57).sg).le (by omega) (by omega), ((hS57.2.2 x ((hA56.2.2.1 x hxl55).trans hxn54)).trans ((hA56.2.2.2.2 x hxn54 hxl55).trans hc50)), h23, ⟨Or.inr (by have q := i_nle c_11; rw [i_sub (by rw [nI_val hm]; omega) (by rw [nI_val hm]; omega), nI_val hm] at q; have : (4 : Int32).toInt = 4 := rfl; omega), by omega, fun q => by omega⟩, hroom⟩)
set_option maxHeartbeats 2000000 in
theorem tq_feed {g : xe_G} {M : mi_H} {Y : yT} {x cm fl B m n : Nat} {cc wp : Int32} {kv : Value} {x1 x2 x3 x4 x5 : Int32} (hW : WF g Y M) (hx : M.1 x = some (ob 11 [.ref cm, .int cc, .ref fl, kv, .int wp])) (hxn : Y.1 x = none) (hxl : x < M.2.1) (hlit : ∀ i, i < 15 → g.2.1 i ≠ x) (hst : Y.1 g.1 = some (24, [0])) (hcm : Y.1 cm = some (20, [m])) (hm : m < 1073741824) (hmf : 4 ≤ m) (hmb : m ≤ 300000) (hc0 : 0 ≤ cc.toInt) (hcm2 : cc.toInt ≤ m) (hf : cc ≤ 65520) {d : Nat} (hd : 3 ≤ d) : mt (mT g) d 9 [.ref x, .int x1, .int x2, .int x3, .int x4, .int x5] M (fun v M' => v = some (.int (cc + 4 + 4 + 4 + 4 + 4)) ∧ ∃ Y' cm' m', sg g Y M Y' M' 5 (2 * (m' - m)) ∧ M'.1 x = some (ob 11 [.ref cm', .int (cc + 4 + 4 + 4 + 4 + 4), .ref fl, kv, .int wp]) ∧ Y'.1 cm' = some (20, [m']) ∧ Gr m m' (cc.toInt + 16) ∧ cc.toInt + 20 ≤ m') := by
  obtain ⟨d, rfl⟩ : ∃ e, d = e + 1 := ⟨d - 1, by omega⟩
  refine mt_in (b := mb_9 g) rfl rfl ?_
  show ml (mT g) d (mb_9 g).2 (0, [(0, .ref x), (1, .int x1), (2, .int x2), (3, .int x3), (4, .int x4), (5, .int x5)], [], M) _
  have hS : st g Y M M := st.rf hW
  have hA := sa.rf hW
  have hf2 := i_le hf
  have e65 : (65520 : Int32).toInt = 65520 := rfl
  refine ml_st (S' := (1, [(0, .ref x), (1, .int x1), (2, .int x2), (3, .int x3), (4, .int x4), (5, .int x5)], [.ref x], M)) rfl rfl rfl ?_
  refine mo_get (S' := (4, [(0, .ref x), (1, .int x1), (2, .int x2), (3, .int x3), (4, .int x4), (5, .int x5)], [.int cc], M)) rfl ((hS.2.2 x ((hA.2.2.1 x hxl).trans hxn)).trans ((hA.2.2.2.2 x hxn hxl).trans hx)) rfl rfl ?_
  refine ml_st (S' := (6, [(0, .ref x), (1, .int x1), (2, .int x2), (3, .int x3), (4, .int x4), (5, .int x5)], [.int 65520, .int cc], M)) rfl rfl rfl ?_
  refine ml_if2 (S1 := (19, [(0, .ref x), (1, .int x1), (2, .int x2), (3, .int x3), (4, .int x4), (5, .int x5)], [], M)) (S2 := (9, [(0, .ref x), (1, .int x1), (2, .int x2), (3, .int x3), (4, .int x4), (5, .int x5)], [], M)) rfl rfl rfl (fun c_6 => ?_) (fun c_6 => ?_)
  rotate_left
  · exact absurd (hf) (of_decide_eq_false c_6)
  refine ml_blk 2 (S' := (21, [(0, .ref x), (1, .int x1), (2, .int x2), (3, .int x3), (4, .int x4), (5, .int x5)], [.int x1, .ref x], M)) rfl ?_
  refine ml_call (a := [.ref x, .int x1]) (rest := []) rfl (okc_v rfl rfl rfl ((hS.2.2 x ((hA.2.2.1 x hxl).trans hxn)).trans ((hA.2.2.2.2 x hxn hxl).trans hx))) rfl rfl (tq_takeWord (m := m) (n := 0) (B := 0) hS.1 ((hS.2.2 x ((hA.2.2.1 x hxl).trans hxn)).trans ((hA.2.2.2.2 x hxn hxl).trans hx)) ((hA.2.2.1 x hxl).trans hxn) (Nat.lt_of_lt_of_le hxl (hA.st hS).2.2.2.1.1) hlit hst hcm hm hmf (by omega) hc0 hcm2 (by omega)) (fun v8 M9 h10 => ?_)
  obtain ⟨rfl, Y1, cm2, m3, hg4, hc5, hy6, gr7, hr11⟩ := h10
  have q12 := gr7.2.1
  have hG13 := ((hA.st hS).sg).tr hg4
  have hxn14 := (hG13.2.2.1 x hxl).trans hxn
  have hxl15 := Nat.lt_of_lt_of_le hxl hG13.2.2.2.1
  have h16 := (hg4.2.1 _ _ hst).1
  have hA17 := sa.rf hG13.1
  have hS18 := st.rf hG13.1
  have e19 : (cc + 4).toInt = cc.toInt + 4 := i_add (by have : (4 : Int32).toInt = 4 := rfl; omega) (by have : (4 : Int32).toInt = 4 := rfl; omega)
  have gq20 : Gr m m3 cc.toInt := gr7
  have q21 := gq20.1
  have q22 := gq20.2.1
  have q23 := hA17.1.rlen hy6 (ty := .byte) rfl
  show ml _ _ _ (24, [(0, .ref x), (1, .int x1), (2, .int x2), (3, .int x3), (4, .int x4), (5, .int x5)], [], M9) _
  refine ml_blk 2 (S' := (26, [(0, .ref x), (1, .int x1), (2, .int x2), (3, .int x3), (4, .int x4), (5, .int x5)], [.int x2, .ref x], M9)) rfl ?_
  refine ml_call (a := [.ref x, .int x2]) (rest := []) rfl (okc_v rfl rfl rfl ((hS18.2.2 x ((hA17.2.2.1 x hxl15).trans hxn14)).trans ((hA17.2.2.2.2 x hxn14 hxl15).trans hc5))) rfl rfl (tq_takeWord (m := m3) (n := 0) (B := 0) hS18.1 ((hS18.2.2 x ((hA17.2.2.1 x hxl15).trans hxn14)).trans ((hA17.2.2.2.2 x hxn14 hxl15).trans hc5)) ((hA17.2.2.1 x hxl15).trans hxn14) (Nat.lt_of_lt_of_le hxl15 (hA17.st hS18).2.2.2.1.1) hlit h16 hy6 q23 (by omega) (by omega) (by omega) (by omega) (by omega)) (fun v31 M32 h33 => ?_)
  obtain ⟨rfl, Y24, cm25, m26, hg27, hc28, hy29, gr30, hr34⟩ := h33
  have q35 := gr30.2.1
  have hG36 := (hG13.tr (hA17.st hS18).sg).tr hg27
  have hxn37 := (hG36.2.2.1 x hxl).trans hxn
  have hxl38 := Nat.lt_of_lt_of_le hxl hG36.2.2.2.1
  have h39 := (hg27.2.1 _ _ h16).1
  have hA40 := sa.rf hG36.1
  have hS41 := st.rf hG36.1
  have e42 : ((cc + 4) + 4).toInt = (cc + 4).toInt + 4 := i_add (by have : (4 : Int32).toInt = 4 := rfl; omega) (by have : (4 : Int32).toInt = 4 := rfl; omega)
  have gq43 : Gr m m26 (cc + 4).toInt := gq20.tr gr30 (by omega)
  have q44 := gq43.1
  have q45 := gq43.2.1
  have q46 := hA40.1.rlen hy29 (ty := .byte) rfl
  show ml _ _ _ (29, [(0, .ref x), (1, .int x1), (2, .int x2), (3, .int x3), (4, .int x4), (5, .int x5)], [], M32) _
  refine ml_blk 2 (S' := (31, [(0, .ref x), (1, .int x1), (2, .int x2), (3, .int x3), (4, .int x4), (5, .int x5)], [.int x3, .ref x], M32)) rfl ?_
  refine ml_call (a := [.ref x, .int x3]) (rest := []) rfl (okc_v rfl rfl rfl ((hS41.2.2 x ((hA40.2.2.1 x hxl38).trans hxn37)).trans ((hA40.2.2.2.2 x hxn37 hxl38).trans hc28))) rfl rfl (tq_takeWord (m := m26) (n := 0) (B := 0) hS41.1 ((hS41.2.2 x ((hA40.2.2.1 x hxl38).trans hxn37)).trans ((hA40.2.2.2.2 x hxn37 hxl38).trans hc28)) ((hA40.2.2.1 x hxl38).trans hxn37) (Nat.lt_of_lt_of_le hxl38 (hA40.st hS41).2.2.2.1.1) hlit h39 hy29 q46 (by omega) (by omega) (by omega) (by omega) (by omega)) (fun v54 M55 h56 => ?_)
  obtain ⟨rfl, Y47, cm48, m49, hg50, hc51, hy52, gr53, hr57⟩ := h56
  have q58 := gr53.2.1
  have hG59 := (hG36.tr (hA40.st hS41).sg).tr hg50
  have hxn60 := (hG59.2.2.1 x hxl).trans hxn
  have hxl61 := Nat.lt_of_lt_of_le hxl hG59.2.2.2.1
  have h62 := (hg50.2.1 _ _ h39).1
  have hA63 := sa.rf hG59.1
  have hS64 := st.rf hG59.1
  have e65 : (((cc + 4) + 4) + 4).toInt = ((cc + 4) + 4).toInt + 4 := i_add (by have : (4 : Int32).toInt = 4 := rfl; omega) (by have : (4 : Int32).toInt = 4 := rfl; omega)
  have gq66 : Gr m m49 ((cc + 4) + 4).toInt := gq43.tr gr53 (by omega)
  have q67 := gq66.1
  have q68 := gq66.2.1
  have q69 := hA63.1.rlen hy52 (ty := .byte) rfl
  show ml _ _ _ (34, [(0, .ref x), (1, .int x1), (2, .int x2), (3, .int x3), (4, .int x4), (5, .int x5)], [], M55) _
  refine ml_blk 2 (S' := (37, [(0, .ref x), (1, .int x1), (2, .int x2), (3, .int x3), (4, .int x4), (5, .int x5)], [.int x4, .ref x], M55)) rfl ?_
  refine ml_call (a := [.ref x, .int x4]) (rest := []) rfl (okc_v rfl rfl rfl ((hS64.2.2 x ((hA63.2.2.1 x hxl61).trans hxn60)).trans ((hA63.2.2.2.2 x hxn60 hxl61).trans hc51))) rfl rfl (tq_takeWord (m := m49) (n := 0) (B := 0) hS64.1 ((hS64.2.2 x ((hA63.2.2.1 x hxl61).trans hxn60)).trans ((hA63.2.2.2.2 x hxn60 hxl61).trans hc51)) ((hA63.2.2.1 x hxl61).trans hxn60) (Nat.lt_of_lt_of_le hxl61 (hA63.st hS64).2.2.2.1.1) hlit h62 hy52 q69 (by omega) (by omega) (by omega) (by omega) (by omega)) (fun v77 M78 h79 => ?_)
  obtain ⟨rfl, Y70, cm71, m72, hg73, hc74, hy75, gr76, hr80⟩ := h79
  have q81 := gr76.2.1
  have hG82 := (hG59.tr (hA63.st hS64).sg).tr hg73
  have hxn83 := (hG82.2.2.1 x hxl).trans hxn
  have hxl84 := Nat.lt_of_lt_of_le hxl hG82.2.2.2.1
  have h85 := (hg73.2.1 _ _ h62).1
  have hA86 := sa.rf hG82.1
  have hS87 := st.rf hG82.1
  have e88 : ((((cc + 4) + 4) + 4) + 4).toInt = (((cc + 4) + 4) + 4).toInt + 4 := i_add (by have : (4 : Int32).toInt = 4 := rfl; omega) (by have : (4 : Int32).toInt = 4 := rfl; omega)
  have gq89 : Gr m m72 (((cc + 4) + 4) + 4).toInt := gq66.tr gr76 (by omega)
  have q90 := gq89.1
  have q91 := gq89.2.1
  have q92 := hA86.1.rlen hy75 (ty := .byte) rfl
  show ml _ _ _ (40, [(0, .ref x), (1, .int x1), (2, .int x2), (3, .int x3), (4, .int x4), (5, .int x5)], [], M78) _
  refine ml_blk 2 (S' := (43, [(0, .ref x), (1, .int x1), (2, .int x2), (3, .int x3), (4, .int x4), (5, .int x5)], [.int x5, .ref x], M78)) rfl ?_
  refine ml_call (a := [.ref x, .int x5]) (rest := []) rfl (okc_v rfl rfl rfl ((hS87.2.2 x ((hA86.2.2.1 x hxl84).trans hxn83)).trans ((hA86.2.2.2.2 x hxn83 hxl84).trans hc74))) rfl rfl (tq_takeWord (m := m72) (n := 0) (B := 0) hS87.1 ((hS87.2.2 x ((hA86.2.2.1 x hxl84).trans hxn83)).trans ((hA86.2.2.2.2 x hxn83 hxl84).trans hc74)) ((hA86.2.2.1 x hxl84).trans hxn83) (Nat.lt_of_lt_of_le hxl84 (hA86.st hS87).2.2.2.1.1) hlit h85 hy75 q92 (by omega) (by omega) (by omega) (by omega) (by omega)) (fun v100 M101 h102 => ?_)
  obtain ⟨rfl, Y93, cm94, m95, hg96, hc97, hy98, gr99, hr103⟩ := h102
  have q104 := gr99.2.1
  have hG105 := (hG82.tr (hA86.st hS87).sg).tr hg96
  have hxn106 := (hG105.2.2.1 x hxl).trans hxn
  have hxl107 := Nat.lt_of_lt_of_le hxl hG105.2.2.2.1
  have h108 := (hg96.2.1 _ _ h85).1
  have hA109 := sa.rf hG105.1
  have hS110 := st.rf hG105.1
  have e111 : (((((cc + 4) + 4) + 4) + 4) + 4).toInt = ((((cc + 4) + 4) + 4) + 4).toInt + 4 := i_add (by have : (4 : Int32).toInt = 4 := rfl; omega) (by have : (4 : Int32).toInt = 4 := rfl; omega)
  have gq112 : Gr m m95 ((((cc + 4) + 4) + 4) + 4).toInt := gq89.tr gr99 (by omega)
  have q113 := gq112.1
  have q114 := gq112.2.1
  have q115 := hA109.1.rlen hy98 (ty := .byte) rfl
  show ml _ _ _ (46, [(0, .ref x), (1, .int x1), (2, .int x2), (3, .int x3), (4, .int x4), (5, .int x5)], [], M101) _
  refine ml_st (S' := (47, [(0, .ref x), (1, .int x1), (2, .int x2), (3, .int x3), (4, .int x4), (5, .int x5)], [.ref x], M101)) rfl rfl rfl ?_
  refine mo_get (S' := (50, [(0, .ref x), (1, .int x1), (2, .int x2), (3, .int x3), (4, .int x4), (5, .int x5)], [.int (((((cc + 4) + 4) + 4) + 4) + 4)], M101)) rfl ((hS110.2.2 x ((hA109.2.2.1 x hxl107).trans hxn106)).trans ((hA109.2.2.2.2 x hxn106 hxl107).trans hc97)) rfl rfl ?_
  exact ml_ret rfl (rfl) (⟨rfl, Y93, cm94, m95, (hG105.tr (hA109.st hS110).sg).le (by omega) (by omega), ((hS110.2.2 x ((hA109.2.2.1 x hxl107).trans hxn106)).trans ((hA109.2.2.2.2 x hxn106 hxl107).trans hc97)), hy98, gq112.tr ⟨Or.inl rfl, Nat.le_refl _, id⟩ (by omega), by omega⟩)
set_option maxHeartbeats 2000000 in
theorem tq_end {g : xe_G} {M : mi_H} {Y : yT} {x cm fl B m n : Nat} {cc wp : Int32} {kv : Value} {x1 : Int32} (hW : WF g Y M) (hx : M.1 x = some (ob 11 [.ref cm, .int cc, .ref fl, kv, .int wp])) (hxn : Y.1 x = none) (hxl : x < M.2.1) (hlit : ∀ i, i < 15 → g.2.1 i ≠ x) (hst : Y.1 g.1 = some (24, [0])) (hcm : Y.1 cm = some (20, [m])) (hm : m < 1073741824) (hmb : m ≤ 300000) (hc0 : 0 ≤ cc.toInt) (hcm2 : cc.toInt < m) (hq0 : ¬ x1 < 0) (hq1 : x1 ≤ cc) {d : Nat} (hd : 3 ≤ d) : mt (mT g) d 7 [.ref x, .int x1] M (fun v M' => v = some (.int x1) ∧ ∃ Y' fl', sg g Y M Y' M' 1 (Int32.toNatClampNeg x1) ∧ M'.1 x = some (ob 11 [.ref cm, .int 0, .ref fl', kv, .int wp]) ∧ Y'.1 fl' = some (24, [(Int32.toNatClampNeg x1)])) := by
  obtain ⟨d, rfl⟩ : ∃ e, d = e + 1 := ⟨d - 1, by omega⟩
  refine mt_in (b := mb_7 g) rfl rfl ?_
  show ml (mT g) d (mb_7 g).2 (0, [(0, .ref x), (1, .int x1)], [], M) _
  have hS : st g Y M M := st.rf hW
  have hA := sa.rf hW
  refine ml_st (S' := (1, [(0, .ref x), (1, .int x1)], [.int x1], M)) rfl rfl rfl ?_
  refine ml_if (S1 := (12, [(0, .ref x), (1, .int x1)], [], M)) (S2 := (4, [(0, .ref x), (1, .int x1)], [], M)) rfl rfl rfl (fun c_1 => ?_) (fun c_1 => ?_)
  · exact absurd (of_decide_eq_true c_1) (hq0)
  refine ml_blk 2 (S' := (6, [(0, .ref x), (1, .int x1)], [.ref x, .int x1], M)) rfl ?_
  refine mo_get (S' := (9, [(0, .ref x), (1, .int x1)], [.int cc, .int x1], M)) rfl ((hS.2.2 x ((hA.2.2.1 x hxl).trans hxn)).trans ((hA.2.2.2.2 x hxn hxl).trans hx)) rfl rfl ?_
  refine ml_if2 (S1 := (22, [(0, .ref x), (1, .int x1)], [], M)) (S2 := (12, [(0, .ref x), (1, .int x1)], [], M)) rfl rfl rfl (fun c_9 => ?_) (fun c_9 => ?_)
  rotate_left
  · exact absurd (hq1) (of_decide_eq_false c_9)
  refine ml_blk 2 (S' := (24, [(0, .ref x), (1, .int x1)], [.ref x, .ref x], M)) rfl ?_
  refine mo_get (S' := (27, [(0, .ref x), (1, .int x1)], [.ref cm, .ref x], M)) rfl ((hS.2.2 x ((hA.2.2.1 x hxl).trans hxn)).trans ((hA.2.2.2.2 x hxn hxl).trans hx)) rfl rfl ?_
  refine ml_st (S' := (28, [(0, .ref x), (1, .int x1)], [.int x1, .ref cm, .ref x], M)) rfl rfl rfl ?_
  obtain ⟨fc, hfc, hfit, -, hcl⟩ := hS.1.gst hcm
  have hx1 := nneg hq0
  have hx2 := i_le hq1
  have hN : ((Int32.toNatClampNeg x1 : Nat) : Int) = x1.toInt := by show ((x1.toInt.toNat : Nat) : Int) = _; omega
  refine ml_call (a := [.ref cm, .int x1]) (rest := [.ref x]) rfl rfl rfl rfl (ct_copyOf hfc hfit (ykne hcm hst (by decide)) (Nat.ne_of_gt (hS.1.2.1 _ _ hst)) hx1 (by omega) hm (fun q => by rw [q, nI_val hm] at hx2; omega) hcl (by omega)) (fun v9 M9 h9 => ?_)
  obtain ⟨rfl, f9, hf9, rfl⟩ := h9
  show ml _ _ _ (31, [(0, .ref x), (1, .int x1)], [.ref M.2.1, .ref x], (mk1 M (ar .byte (Int32.toNatClampNeg x1) f9) (Int32.toNatClampNeg x1))) _
  refine mm_file hS.1 (by omega) hf9 (fun Y1 M2 b3 _ h4 h5 => ?_)
  have hA6 := (hA.st hS).tr h4.sa
  have hS7 := st.rf hA6.1
  have h8 := (h4.2.1 _ _ hst).1
  have h9 := (h4.2.1 _ _ hcm).1
  show ml _ _ _ (31, [(0, .ref x), (1, .int x1)], [.ref b3, .ref x], M2) _
  refine gx_put (l' := [.ref cm, .int cc, .ref b3, kv, .int wp]) rfl ((hS7.2.2 x ((hA6.2.2.1 x hxl).trans hxn)).trans ((hA6.2.2.2.2 x hxn hxl).trans hx)) rfl rfl rfl hS7.1 ((hA6.2.2.1 x hxl).trans hxn) hlit (fun M10 hs11 hc12 hm13 hf14 => ?_)
  have hG15 := ((hA6.st hS7).sg).tr hs11
  have hxn16 := (hG15.2.2.1 x hxl).trans hxn
  have hxl17 := Nat.lt_of_lt_of_le hxl hG15.2.2.2.1
  have hA18 := sa.rf hG15.1
  have hS19 := st.rf hG15.1
  show ml _ _ _ (34, [(0, .ref x), (1, .int x1)], [], M10) _
  refine ml_blk 2 (S' := (36, [(0, .ref x), (1, .int x1)], [.int 0, .ref x], M10)) rfl ?_
  refine gx_put (l' := [.ref cm, .int 0, .ref b3, kv, .int wp]) rfl ((hS19.2.2 x ((hA18.2.2.1 x hxl17).trans hxn16)).trans ((hA18.2.2.2.2 x hxn16 hxl17).trans hc12)) rfl rfl rfl hS19.1 ((hA18.2.2.1 x hxl17).trans hxn16) hlit (fun M20 hs21 hc22 hm23 hf24 => ?_)
  have hG25 := (hG15.tr (hA18.st hS19).sg).tr hs21
  have hxn26 := (hG25.2.2.1 x hxl).trans hxn
  have hxl27 := Nat.lt_of_lt_of_le hxl hG25.2.2.2.1
  have hA28 := sa.rf hG25.1
  have hS29 := st.rf hG25.1
  show ml _ _ _ (39, [(0, .ref x), (1, .int x1)], [], M20) _
  refine ml_st (S' := (40, [(0, .ref x), (1, .int x1)], [.int x1], M20)) rfl rfl rfl ?_
  exact ml_ret rfl (rfl) (⟨rfl, Y1, b3, (hG25.tr (hA28.st hS29).sg).le (by omega) (by omega), ((hS29.2.2 x ((hA28.2.2.1 x hxl27).trans hxn26)).trans ((hA28.2.2.2.2 x hxn26 hxl27).trans hc22)), h5⟩)
set_option maxHeartbeats 2000000 in
theorem tq_read {g : xe_G} {M : mi_H} {Y : yT} {x cm fl B m n : Nat} {cc wp : Int32} {kv : Value} (hW : WF g Y M) (hx : M.1 x = some (ob 11 [.ref cm, .int cc, .ref fl, kv, .int wp])) (hxn : Y.1 x = none) (hxl : x < M.2.1) (hlit : ∀ i, i < 15 → g.2.1 i ≠ x) (hst : Y.1 g.1 = some (24, [0])) (hfl : Y.1 fl = some (24, [n])) (hnB : n ≤ B) (hB : B ≤ 65540) (hkv : kvOk Y kv B) {d : Nat} (hd : 16 ≤ d) : mt (mT g) d 18 [.ref x] M (fun v M' => ∃ Y' kv' wp', (∃ y : Int32, v = some (.int y)) ∧ sg g Y M Y' M' (3 * n + 25) (10 * n + 64) ∧ M'.1 x = some (ob 11 [.ref cm, .int cc, .ref g.1, kv', .int wp']) ∧ kvOk Y' kv' B) := by
  obtain ⟨d, rfl⟩ : ∃ e, d = e + 1 := ⟨d - 1, by omega⟩
  refine mt_in (b := mb_18 g) rfl rfl ?_
  show ml (mT g) d (mb_18 g).2 (0, [(0, .ref x)], [], M) _
  have hS : st g Y M M := st.rf hW
  have hA := sa.rf hW
  have hW_hM2 := hS.1
  refine mm_newf (c := 0) (k := 3) (N := 17) (ds := [.null, .null, .int 0, .int 0, .int 0, .int 0, .null, .null, .int 0, .int 0, .int 0, .int 0, .int 0, .int 0, .int 0, .int 0, .int 0]) rfl hW_hM2 (fun M1 hM2 f3 => ?_)
  show ml _ _ _ (3, [(0, .ref x)], [.ref M.2.1], M1) _
  refine ml_st (S' := (4, [(0, .ref x)], [.ref M.2.1, .ref M.2.1], M1)) rfl rfl rfl ?_
  have hW_hM5 := hM2.1.1
  refine mm_newf (c := 0) (k := 1) (N := 1) (ds := [.null]) rfl hW_hM5 (fun M4 hM5 f6 => ?_)
  show ml _ _ _ (7, [(0, .ref x)], [.ref M1.2.1, .ref M.2.1, .ref M.2.1], M4) _
  refine ml_blk 2 (S' := (9, [(0, .ref x)], [.ref x, .ref M1.2.1, .ref M1.2.1, .ref M.2.1, .ref M.2.1], M4)) rfl ?_
  refine mo_get (S' := (12, [(0, .ref x)], [.ref fl, .ref M1.2.1, .ref M1.2.1, .ref M.2.1, .ref M.2.1], M4)) rfl ((hM5.1.2.2.2.2 x (Nat.lt_of_lt_of_le hxl hM2.1.2.2.2.1.1)).trans ((hM2.1.2.2.2.2 x hxl).trans hx)) rfl rfl ?_
  refine ml_call (a := [.ref M1.2.1, .ref fl]) (rest := [.ref M1.2.1, .ref M.2.1, .ref M.2.1]) rfl (okc_v rfl rfl rfl hM5.2.1) rfl rfl (tk_Bytes hW_hM5 hM5  (by omega)) (fun v7 M8 h9 => ?_)
  obtain ⟨rfl, Y10, hM11, h12⟩ := h9
  have h13 := (h12 _ _ hst).1
  have h14 := (h12 _ _ hfl).1
  refine mm_done (k := 1) (ps := [fl, n]) hM11 (okY_new (by decide) hM11.2.1 (by simp [sch]) ⟨rfl, trivial⟩ ((yadd_le hM11.2.2.1 _ _ h14).1) (show n ≤ 65540 by omega)) (fun Y15 h16 h17 h18 => ?_)
  have h19 := (h17 _ _ h13).1
  have h20 := (h17 _ _ h14).1
  have hM21 := hM2.tr h16
  show ml _ _ _ (15, [(0, .ref x)], [.ref M1.2.1, .ref M.2.1, .ref M.2.1], M8) _
  refine ml_call (a := [.ref M.2.1, .ref M1.2.1]) (rest := [.ref M.2.1]) rfl (okc_v rfl rfl rfl hM21.2.1) rfl rfl (tk_ClassFile hW_hM2 hM21 h18 (by omega)) (fun v22 M23 h24 => ?_)
  obtain ⟨rfl, Y25, h26, h27, h28⟩ := h24
  have hA29 := (hA.st hS).tr h26.sa
  have hS30 := st.rf hA29.1
  have h31 := (h27 _ _ h19).1
  have h32 := (h27 _ _ h20).1
  have h33 := (h27 _ _ h18).1
  show ml _ _ _ (18, [(0, .ref x)], [.ref M.2.1], M23) _
  refine ml_st (S' := (19, [(1, .ref M.2.1), (0, .ref x)], [], M23)) rfl rfl rfl ?_
  have hW_hM35 := hS30.1
  refine mm_newf (c := 0) (k := 10) (N := 2) (ds := [.int 0, .int 0]) rfl hW_hM35 (fun M34 hM35 f36 => ?_)
  show ml _ _ _ (22, [(1, .ref M.2.1), (0, .ref x)], [.ref M23.2.1], M34) _
  refine ml_st (S' := (23, [(1, .ref M.2.1), (0, .ref x)], [.ref M23.2.1, .ref M23.2.1], M34)) rfl rfl rfl ?_
  refine ml_call (a := [.ref M23.2.1]) (rest := [.ref M23.2.1]) rfl (okc_v rfl rfl rfl hM35.2.1) rfl rfl (tk_Verdict hW_hM35 hM35  (by omega)) (fun v37 M38 h39 => ?_)
  obtain ⟨rfl, Y40, hM41, h42⟩ := h39
  have h43 := (h42 _ _ h31).1
  have h44 := (h42 _ _ h32).1
  have h45 := (h42 _ _ h33).1
  have h46 := (h42 _ _ h28).1
  refine mm_done (k := 10) (ps := []) hM41 (okY_new (by decide) hM41.2.1 (by simp [sch]) ⟨⟨_, rfl⟩, ⟨_, rfl⟩, trivial⟩ trivial trivial) (fun Y47 h48 h49 h50 => ?_)
  have h51 := (h49 _ _ h43).1
  have h52 := (h49 _ _ h44).1
  have h53 := (h49 _ _ h45).1
  have h54 := (h49 _ _ h46).1
  have hA55 := (hA29.st hS30).tr h48.sa
  have hS56 := st.rf hA55.1
  show ml _ _ _ (26, [(1, .ref M.2.1), (0, .ref x)], [.ref M23.2.1], M38) _
  refine ml_st (S' := (27, [(2, .ref M23.2.1), (1, .ref M.2.1), (0, .ref x)], [], M38)) rfl rfl rfl ?_
  refine ml_blk 2 (S' := (31, [(2, .ref M23.2.1), (1, .ref M.2.1), (0, .ref x)], [.ref g.1, .ref x], M38)) rfl ?_
  refine gx_put (l' := [.ref cm, .int cc, .ref g.1, kv, .int wp]) rfl ((hS56.2.2 x ((hA55.2.2.1 x hxl).trans hxn)).trans ((hA55.2.2.2.2 x hxn hxl).trans hx)) rfl rfl rfl hS56.1 ((hA55.2.2.1 x hxl).trans hxn) hlit (fun M57 hs58 hc59 hm60 hf61 => ?_)
  have hG62 := ((hA55.st hS56).sg).tr hs58
  have hxn63 := (hG62.2.2.1 x hxl).trans hxn
  have hxl64 := Nat.lt_of_lt_of_le hxl hG62.2.2.2.1
  have hA65 := sa.rf hG62.1
  have hS66 := st.rf hG62.1
  show ml _ _ _ (34, [(2, .ref M23.2.1), (1, .ref M.2.1), (0, .ref x)], [], M57) _
  refine ml_blk 2 (S' := (36, [(2, .ref M23.2.1), (1, .ref M.2.1), (0, .ref x)], [.ref M23.2.1, .ref M.2.1], M57)) rfl ?_
  refine ml_call (a := [.ref M.2.1, .ref M23.2.1]) (rest := []) rfl (rfl) rfl rfl (tg_isWhole hS66.1 h54 h53 h50 (by omega)) (fun v67 M68 h69 => ?_)
  obtain ⟨Y71, ⟨u70, rfl, z73⟩, hv72⟩ := h69
  have hA74 := (hA65.st hS66).tr hv72
  have hS75 := st.rf hA74.1
  have h76 := (hv72.2.1 _ _ h51).1
  have h77 := (hv72.2.1 _ _ h52).1
  have h78 := (hv72.2.1 _ _ h53).1
  have h79 := (hv72.2.1 _ _ h54).1
  have h80 := (hv72.2.1 _ _ h50).1
  show ml _ _ _ (39, [(2, .ref M23.2.1), (1, .ref M.2.1), (0, .ref x)], [.int u70], M68) _
  refine ml_if (S1 := (55, [(0, .ref x), (2, .ref M23.2.1)], [], M68)) (S2 := (42, [(2, .ref M23.2.1), (1, .ref M.2.1), (0, .ref x)], [], M68)) rfl rfl rfl (fun c_39 => ?_) (fun c_39 => ?_)
  · have c_39 : u70 = 0 := of_decide_eq_true c_39
    refine ml_blk 2 (S' := (57, [(0, .ref x), (2, .ref M23.2.1)], [.ref M23.2.1, .ref x], M68)) rfl ?_
    refine tg_int rfl hS75.1 h80 (by decide) rfl (fun u81 g82 => ?_)
    show ml _ _ _ (60, [(0, .ref x), (2, .ref M23.2.1)], [.int u81, .ref x], M68) _
    refine gx_put (l' := [.ref cm, .int cc, .ref g.1, kv, .int u81]) rfl ((hS75.2.2 x ((hA74.2.2.1 x hxl64).trans hxn63)).trans ((hA74.2.2.2.2 x hxn63 hxl64).trans hc59)) rfl rfl rfl hS75.1 ((hA74.2.2.1 x hxl64).trans hxn63) hlit (fun M83 hs84 hc85 hm86 hf87 => ?_)
    have hG88 := (hG62.tr (hA74.st hS75).sg).tr hs84
    have hxn89 := (hG88.2.2.1 x hxl).trans hxn
    have hxl90 := Nat.lt_of_lt_of_le hxl hG88.2.2.2.1
    have hA91 := sa.rf hG88.1
    have hS92 := st.rf hG88.1
    show ml _ _ _ (63, [(0, .ref x), (2, .ref M23.2.1)], [], M83) _
    refine ml_st (S' := (64, [(0, .ref x), (2, .ref M23.2.1)], [.ref M23.2.1], M83)) rfl rfl rfl ?_
    refine tg_int rfl hS92.1 h80 (by decide) rfl (fun u93 g94 => ?_)
    show ml _ _ _ (67, [(0, .ref x), (2, .ref M23.2.1)], [.int u93], M83) _
    exact ml_ret rfl (rfl) (⟨Y71, _, _, ⟨_, rfl⟩, (hG88.tr (hA91.st hS92).sg).le (by omega) (by omega), ((hS92.2.2 x ((hA91.2.2.1 x hxl90).trans hxn89)).trans ((hA91.2.2.2.2 x hxn89 hxl90).trans hc85)), hkv.mono (hG88.tr (hA91.st hS92).sg).2.1⟩)
  · have c_39 : ¬ (u70 = 0) := of_decide_eq_false c_39
    refine ml_blk 2 (S' := (44, [(2, .ref M23.2.1), (1, .ref M.2.1), (0, .ref x)], [.ref M23.2.1, .ref M.2.1], M68)) rfl ?_
    refine ml_call (a := [.ref M.2.1, .ref M23.2.1]) (rest := []) rfl (rfl) rfl rfl (tg_holds hS75.1 h79 h78 h80 (by omega)) (fun v95 M96 h97 => ?_)
    obtain ⟨Y99, ⟨u98, rfl, z101⟩, hv100⟩ := h97
    have hA102 := (hA74.st hS75).tr hv100
    have hS103 := st.rf hA102.1
    have h104 := (hv100.2.1 _ _ h76).1
    have h105 := (hv100.2.1 _ _ h77).1
    have h106 := (hv100.2.1 _ _ h78).1
    have h107 := (hv100.2.1 _ _ h79).1
    have h108 := (hv100.2.1 _ _ h80).1
    show ml _ _ _ (47, [(2, .ref M23.2.1), (1, .ref M.2.1), (0, .ref x)], [.int u98], M96) _
    refine ml_if (S1 := (55, [(0, .ref x), (2, .ref M23.2.1)], [], M96)) (S2 := (50, [(2, .ref M23.2.1), (1, .ref M.2.1), (0, .ref x)], [], M96)) rfl rfl rfl (fun c_47 => ?_) (fun c_47 => ?_)
    · have c_47 : u98 = 0 := of_decide_eq_true c_47
      refine ml_blk 2 (S' := (57, [(0, .ref x), (2, .ref M23.2.1)], [.ref M23.2.1, .ref x], M96)) rfl ?_
      refine tg_int rfl hS103.1 h108 (by decide) rfl (fun u109 g110 => ?_)
      show ml _ _ _ (60, [(0, .ref x), (2, .ref M23.2.1)], [.int u109, .ref x], M96) _
      refine gx_put (l' := [.ref cm, .int cc, .ref g.1, kv, .int u109]) rfl ((hS103.2.2 x ((hA102.2.2.1 x hxl64).trans hxn63)).trans ((hA102.2.2.2.2 x hxn63 hxl64).trans hc59)) rfl rfl rfl hS103.1 ((hA102.2.2.1 x hxl64).trans hxn63) hlit (fun M111 hs112 hc113 hm114 hf115 => ?_)
      have hG116 := (hG62.tr (hA102.st hS103).sg).tr hs112
      have hxn117 := (hG116.2.2.1 x hxl).trans hxn
      have hxl118 := Nat.lt_of_lt_of_le hxl hG116.2.2.2.1
      have hA119 := sa.rf hG116.1
      have hS120 := st.rf hG116.1
      show ml _ _ _ (63, [(0, .ref x), (2, .ref M23.2.1)], [], M111) _
      refine ml_st (S' := (64, [(0, .ref x), (2, .ref M23.2.1)], [.ref M23.2.1], M111)) rfl rfl rfl ?_
      refine tg_int rfl hS120.1 h108 (by decide) rfl (fun u121 g122 => ?_)
      show ml _ _ _ (67, [(0, .ref x), (2, .ref M23.2.1)], [.int u121], M111) _
      exact ml_ret rfl (rfl) (⟨Y99, _, _, ⟨_, rfl⟩, (hG116.tr (hA119.st hS120).sg).le (by omega) (by omega), ((hS120.2.2 x ((hA119.2.2.1 x hxl118).trans hxn117)).trans ((hA119.2.2.2.2 x hxn117 hxl118).trans hc113)), hkv.mono (hG116.tr (hA119.st hS120).sg).2.1⟩)
    · have c_47 : ¬ (u98 = 0) := of_decide_eq_false c_47
      refine ml_blk 2 (S' := (52, [(2, .ref M23.2.1), (1, .ref M.2.1), (0, .ref x)], [.ref M.2.1, .ref x], M96)) rfl ?_
      refine gx_put (l' := [.ref cm, .int cc, .ref g.1, .ref M.2.1, .int wp]) rfl ((hS103.2.2 x ((hA102.2.2.1 x hxl64).trans hxn63)).trans ((hA102.2.2.2.2 x hxn63 hxl64).trans hc59)) rfl rfl rfl hS103.1 ((hA102.2.2.1 x hxl64).trans hxn63) hlit (fun M123 hs124 hc125 hm126 hf127 => ?_)
      have hG128 := (hG62.tr (hA102.st hS103).sg).tr hs124
      have hxn129 := (hG128.2.2.1 x hxl).trans hxn
      have hxl130 := Nat.lt_of_lt_of_le hxl hG128.2.2.2.1
      have hA131 := sa.rf hG128.1
      have hS132 := st.rf hG128.1
      show ml _ _ _ (55, [(0, .ref x), (2, .ref M23.2.1)], [], M123) _
      refine ml_blk 2 (S' := (57, [(0, .ref x), (2, .ref M23.2.1)], [.ref M23.2.1, .ref x], M123)) rfl ?_
      refine tg_int rfl hS132.1 h108 (by decide) rfl (fun u133 g134 => ?_)
      show ml _ _ _ (60, [(0, .ref x), (2, .ref M23.2.1)], [.int u133, .ref x], M123) _
      refine gx_put (l' := [.ref cm, .int cc, .ref g.1, .ref M.2.1, .int u133]) rfl ((hS132.2.2 x ((hA131.2.2.1 x hxl130).trans hxn129)).trans ((hA131.2.2.2.2 x hxn129 hxl130).trans hc125)) rfl rfl rfl hS132.1 ((hA131.2.2.1 x hxl130).trans hxn129) hlit (fun M135 hs136 hc137 hm138 hf139 => ?_)
      have hG140 := (hG128.tr (hA131.st hS132).sg).tr hs136
      have hxn141 := (hG140.2.2.1 x hxl).trans hxn
      have hxl142 := Nat.lt_of_lt_of_le hxl hG140.2.2.2.1
      have hA143 := sa.rf hG140.1
      have hS144 := st.rf hG140.1
      show ml _ _ _ (63, [(0, .ref x), (2, .ref M23.2.1)], [], M135) _
      refine ml_st (S' := (64, [(0, .ref x), (2, .ref M23.2.1)], [.ref M23.2.1], M135)) rfl rfl rfl ?_
      refine tg_int rfl hS144.1 h108 (by decide) rfl (fun u145 g146 => ?_)
      show ml _ _ _ (67, [(0, .ref x), (2, .ref M23.2.1)], [.int u145], M135) _
      exact ml_ret rfl (rfl) (⟨Y99, _, _, ⟨_, rfl⟩, (hG140.tr (hA143.st hS144).sg).le (by omega) (by omega), ((hS144.2.2 x ((hA143.2.2.1 x hxl142).trans hxn141)).trans ((hA143.2.2.2.2 x hxn141 hxl142).trans hc137)), Or.inr ⟨_, _, _, _, rfl, h107, hnB⟩⟩)
