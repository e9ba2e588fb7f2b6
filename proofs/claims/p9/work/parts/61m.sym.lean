/-! the reference: symbols (laid by wip/p2/c61.py) -/
set_option maxHeartbeats 2000000 in
theorem rm_symbol {g : xe_G}  {m0 : Nat} {q : Nat → Nat} {z : Nat × Nat} {I : rI} {R : rR} {M : mi_H} {x1 : Int32} {S cN : Nat} {sa sl ch : Nat → Int32} {he nx : Nat → Int32} {m : Nat} {cu : Nat → Int32}  (hR : RS g m0 q z I R M) (hY : SK S cN sa sl ch I R) (hH : HK S he nx I R) (hU : CU m cu I R) (hm : x1.toInt = m) (hroom : cN + m ≤ 66000) (hS : S < 24000) {d : Nat} (hd : 1 ≤ d) : mt (mT g) d 245 [.ref m0, .int x1] M (fun v M' => ∃ (x : Int32) (I' : rI) (R' : rR), v = some (.int x) ∧ RS g m0 q z I' R' M' ∧ eqI [3, 8] I I' ∧ eqR [1, 4, 5, 6, 7] R R' ∧ SX S cN m sa sl ch x I' R') := by
  obtain ⟨d, rfl⟩ : ∃ e, d = e + 1 := ⟨d - 1, by omega⟩
  refine mt_in (b := mb_245 g) rfl rfl ?_
  show ml (mT g) d (mb_245 g).2 (0, [(0, .ref m0), (1, .int x1)], [], M) _
  refine ml_st (S' := (2, [(0, .ref m0), (1, .int x1)], [.int 7], M)) rfl rfl rfl ?_
  refine ml_st (S' := (3, [(2, .int 7), (0, .ref m0), (1, .int x1)], [], M)) rfl rfl rfl ?_
  refine ml_st (S' := (4, [(2, .int 7), (0, .ref m0), (1, .int x1)], [.int 0], M)) rfl rfl rfl ?_
  refine ml_st (S' := (5, [(0, .ref m0), (1, .int x1), (2, .int 7), (3, .int 0)], [], M)) rfl rfl rfl ?_
  have L_5 : ∀ (n_5 : Nat) (i5_2 : Int32) (i5_3 : Int32), (2147483648 - i5_3.toInt).toNat ≤ n_5 → 0 ≤ i5_3.toInt → ml (mT g) d (mb_245 g).2 (5, [(0, .ref m0), (1, .int x1), (2, .int i5_2), (3, .int i5_3)], [], M) (fun v M' => ∃ (x : Int32) (I' : rI) (R' : rR), v = some (.int x) ∧ RS g m0 q z I' R' M' ∧ eqI [3, 8] I I' ∧ eqR [1, 4, 5, 6, 7] R R' ∧ SX S cN m sa sl ch x I' R') := by
    intro n_5
    induction n_5 with
    | zero => intro i5_2 i5_3 hn; exact (loop_zero hn).elim
    | succ n_5 ih_5 =>
      intro i5_2 i5_3 hn_5 hi_5
      refine ml_blk 2 (S' := (7, [(0, .ref m0), (1, .int x1), (2, .int i5_2), (3, .int i5_3)], [.int x1, .int i5_3], M)) rfl ?_
      refine ml_if2 (S1 := (28, [(0, .ref m0), (1, .int x1), (2, .int i5_2), (3, .int i5_3)], [], M)) (S2 := (10, [(0, .ref m0), (1, .int x1), (2, .int i5_2), (3, .int i5_3)], [], M)) rfl rfl rfl (fun c_7 => ?_) (fun c_7 => ?_)
      · have c_7 : x1 ≤ i5_3 := of_decide_eq_true c_7
        refine ml_blk 3 (S' := (32, [(0, .ref m0), (1, .int x1), (2, .int i5_2), (3, .int i5_3)], [.int 12, .int i5_2, .int i5_2], M)) rfl ?_
        refine ml_blk 3 (S' := (37, [(0, .ref m0), (1, .int x1), (2, .int i5_2), (3, .int i5_3)], [.int 4095, .int (i5_2 ^^^ (((Int32.toUInt32 i5_2) >>> ((Int32.toUInt32 12) &&& Int32.toUInt32 31)).toInt32))], M)) rfl ?_
        refine ml_st (S' := (38, [(0, .ref m0), (1, .int x1), (2, .int i5_2), (3, .int i5_3)], [.int ((i5_2 ^^^ (((Int32.toUInt32 i5_2) >>> ((Int32.toUInt32 12) &&& Int32.toUInt32 31)).toInt32)) &&& 4095)], M)) rfl rfl rfl ?_
        have hb := and4095 (i5_2 ^^^ (((Int32.toUInt32 i5_2) >>> ((Int32.toUInt32 12) &&& Int32.toUInt32 31)).toInt32))
        generalize ((i5_2 ^^^ (((Int32.toUInt32 i5_2) >>> ((Int32.toUInt32 12) &&& Int32.toUInt32 31)).toInt32)) &&& 4095) = hh at hb ⊢
        refine ml_st (S' := (39, [(2, .int hh), (0, .ref m0), (1, .int x1), (3, .int i5_3)], [], M)) rfl rfl rfl ?_
        refine ml_st (S' := (40, [(2, .int hh), (0, .ref m0), (1, .int x1), (3, .int i5_3)], [.ref m0], M)) rfl rfl rfl ?_
        refine rg_ref (S' := (43, [(2, .int hh), (0, .ref m0), (1, .int x1), (3, .int i5_3)], [.ref (q 7)], M)) rfl hR rfl rfl ?_
        refine ml_st (S' := (44, [(2, .int hh), (0, .ref m0), (1, .int x1), (3, .int i5_3)], [.int hh, .ref (q 7)], M)) rfl rfl rfl ?_
        refine ra_ld (k := 7) (S' := (45, [(2, .int hh), (0, .ref m0), (1, .int x1), (3, .int i5_3)], [.int (he (Int32.toNatClampNeg hh))], M)) rfl hR rfl (vin_lt hb.1 hb.2) ((hH.h hb.1 hb.2).1) rfl ?_
        refine ml_st (S' := (46, [(0, .ref m0), (1, .int x1), (2, .int hh), (3, .int (he (Int32.toNatClampNeg hh)))], [], M)) rfl rfl rfl ?_
        have L_46 : ∀ (n_46 : Nat) (i46_3 : Int32), (i46_3.toInt + 2).toNat ≤ n_46 → (-1 ≤ i46_3.toInt ∧ i46_3.toInt < S) → ml (mT g) d (mb_245 g).2 (46, [(0, .ref m0), (1, .int x1), (2, .int hh), (3, .int i46_3)], [], M) (fun v M' => ∃ (x : Int32) (I' : rI) (R' : rR), v = some (.int x) ∧ RS g m0 q z I' R' M' ∧ eqI [3, 8] I I' ∧ eqR [1, 4, 5, 6, 7] R R' ∧ SX S cN m sa sl ch x I' R') := by
          intro n_46
          induction n_46 with
          | zero => intro i46_3 hn hi; exact (by omega)
          | succ n_46 ih_46 =>
            intro i46_3 hn_46 hi_46
            refine ml_st (S' := (47, [(0, .ref m0), (1, .int x1), (2, .int hh), (3, .int i46_3)], [.int i46_3], M)) rfl rfl rfl ?_
            refine ml_if (S1 := (135, [(0, .ref m0), (1, .int x1), (2, .int hh), (3, .int i46_3)], [], M)) (S2 := (50, [(0, .ref m0), (1, .int x1), (2, .int hh), (3, .int i46_3)], [], M)) rfl rfl rfl (fun c_47 => ?_) (fun c_47 => ?_)
            · have c_47 : i46_3 < 0 := of_decide_eq_true c_47
              refine ml_st (S' := (136, [(0, .ref m0), (1, .int x1), (2, .int hh), (3, .int i46_3)], [.int 0], M)) rfl rfl rfl ?_
              refine ml_st (S' := (137, [(0, .ref m0), (1, .int x1), (2, .int hh), (3, .int 0)], [], M)) rfl rfl rfl ?_
              have L_137 : ∀ (n_137 : Nat) (i137_3 : Int32) (M_137 : mi_H) (I_137 : rI) (R_137 : rR), (2147483648 - i137_3.toInt).toNat ≤ n_137 → RS g m0 q z I_137 R_137 M_137 → eqI [] I I_137 → eqR [1] R R_137 → (0 ≤ i137_3.toInt ∧ i137_3.toInt ≤ x1.toInt ∧ (∀ i, i < cN → R_137 1 i = some (ch i)) ∧ ∀ j, j < i137_3.toInt.toNat → R_137 1 (cN + j) = some (cu j)) → ml (mT g) d (mb_245 g).2 (137, [(0, .ref m0), (1, .int x1), (2, .int hh), (3, .int i137_3)], [], M_137) (fun v M' => ∃ (x : Int32) (I' : rI) (R' : rR), v = some (.int x) ∧ RS g m0 q z I' R' M' ∧ eqI [3, 8] I I' ∧ eqR [1, 4, 5, 6, 7] R R' ∧ SX S cN m sa sl ch x I' R') := by
                intro n_137
                induction n_137 with
                | zero => intro i137_3 M_137 I_137 R_137 hn; exact (loop_zero hn).elim
                | succ n_137 ih_137 =>
                  intro i137_3 M_137 I_137 R_137 hn_137 hR_137 hI_137 hV_137 hi_137
                  obtain ⟨hk0, hk1, hc1, hc2⟩ := hi_137
                  refine ml_blk 2 (S' := (139, [(0, .ref m0), (1, .int x1), (2, .int hh), (3, .int i137_3)], [.int x1, .int i137_3], M_137)) rfl ?_
                  refine ml_if2 (S1 := (165, [(0, .ref m0), (1, .int x1), (2, .int hh), (3, .int i137_3)], [], M_137)) (S2 := (142, [(0, .ref m0), (1, .int x1), (2, .int hh), (3, .int i137_3)], [], M_137)) rfl rfl rfl (fun c_139 => ?_) (fun c_139 => ?_)
                  · have c_139 : x1 ≤ i137_3 := of_decide_eq_true c_139
                    refine ml_blk 2 (S' := (167, [(0, .ref m0), (1, .int x1), (2, .int hh), (3, .int i137_3)], [.ref m0, .ref m0], M_137)) rfl ?_
                    refine rg_int (S' := (170, [(0, .ref m0), (1, .int x1), (2, .int hh), (3, .int i137_3)], [.int (nI S), .ref m0], M_137)) rfl hR_137 rfl ((hI_137 8 (by decide)).trans (hY.1)) rfl ?_
                    refine ml_blk 3 (S' := (173, [(0, .ref m0), (1, .int x1), (2, .int hh), (3, .int i137_3)], [.int ((nI S) + 1), .ref m0, .int (nI S)], M_137)) rfl ?_
                    refine rp_int rfl hR_137 rfl (fun M11 I12 hR13 e14 f15 => ?_)
                    show ml _ _ _ (176, [(0, .ref m0), (1, .int x1), (2, .int hh), (3, .int i137_3)], [.int (nI S)], M11) _
                    refine ml_st (S' := (177, [(3, .int (nI S)), (0, .ref m0), (1, .int x1), (2, .int hh)], [], M11)) rfl rfl rfl ?_
                    refine ml_st (S' := (178, [(3, .int (nI S)), (0, .ref m0), (1, .int x1), (2, .int hh)], [.ref m0], M11)) rfl rfl rfl ?_
                    refine rg_ref (S' := (181, [(3, .int (nI S)), (0, .ref m0), (1, .int x1), (2, .int hh)], [.ref (q 4)], M11)) rfl hR13 rfl rfl ?_
                    refine ml_blk 2 (S' := (183, [(3, .int (nI S)), (0, .ref m0), (1, .int x1), (2, .int hh)], [.ref m0, .int (nI S), .ref (q 4)], M11)) rfl ?_
                    refine rg_int (S' := (186, [(3, .int (nI S)), (0, .ref m0), (1, .int x1), (2, .int hh)], [.int (nI cN), .int (nI S), .ref (q 4)], M11)) rfl hR13 rfl ((f15 3 (by decide)).trans ((hI_137 3 (by decide)).trans (hY.2.1))) rfl ?_
                    refine ra_st (k := 4) rfl hR13 rfl (vin_lt (by rw [nI_val (by omega)]; omega) (by rw [nI_val (by omega)]; omega)) (fun M16 R17 hR18 e19 g20 f21 => ?_)
                    show ml _ _ _ (187, [(3, .int (nI S)), (0, .ref m0), (1, .int x1), (2, .int hh)], [], M16) _
                    refine ml_st (S' := (188, [(3, .int (nI S)), (0, .ref m0), (1, .int x1), (2, .int hh)], [.ref m0], M16)) rfl rfl rfl ?_
                    refine rg_ref (S' := (191, [(3, .int (nI S)), (0, .ref m0), (1, .int x1), (2, .int hh)], [.ref (q 5)], M16)) rfl hR18 rfl rfl ?_
                    refine ml_blk 2 (S' := (193, [(3, .int (nI S)), (0, .ref m0), (1, .int x1), (2, .int hh)], [.int x1, .int (nI S), .ref (q 5)], M16)) rfl ?_
                    refine ra_st (k := 5) rfl hR18 rfl (vin_lt (by rw [nI_val (by omega)]; omega) (by rw [nI_val (by omega)]; omega)) (fun M22 R23 hR24 e25 g26 f27 => ?_)
                    show ml _ _ _ (194, [(3, .int (nI S)), (0, .ref m0), (1, .int x1), (2, .int hh)], [], M22) _
                    refine ml_st (S' := (195, [(3, .int (nI S)), (0, .ref m0), (1, .int x1), (2, .int hh)], [.ref m0], M22)) rfl rfl rfl ?_
                    refine rg_ref (S' := (198, [(3, .int (nI S)), (0, .ref m0), (1, .int x1), (2, .int hh)], [.ref (q 6)], M22)) rfl hR24 rfl rfl ?_
                    refine ml_blk 2 (S' := (200, [(3, .int (nI S)), (0, .ref m0), (1, .int x1), (2, .int hh)], [.ref m0, .int (nI S), .ref (q 6)], M22)) rfl ?_
                    refine rg_ref (S' := (203, [(3, .int (nI S)), (0, .ref m0), (1, .int x1), (2, .int hh)], [.ref (q 7), .int (nI S), .ref (q 6)], M22)) rfl hR24 rfl rfl ?_
                    refine ml_st (S' := (204, [(3, .int (nI S)), (0, .ref m0), (1, .int x1), (2, .int hh)], [.int hh, .ref (q 7), .int (nI S), .ref (q 6)], M22)) rfl rfl rfl ?_
                    have hH28 : HK S he nx I12 R23 := ((((hH.mono (cIx hI_137 (by decide)) (cRx hV_137 (by decide))).mono (pIx f15 (by decide)) (fun _ _ => rfl)).mono (fun _ _ => rfl) (pRx f21 (by decide))).mono (fun _ _ => rfl) (pRx f27 (by decide)))
                    refine ra_ld (k := 7) (S' := (205, [(3, .int (nI S)), (0, .ref m0), (1, .int x1), (2, .int hh)], [.int (he (Int32.toNatClampNeg hh)), .int (nI S), .ref (q 6)], M22)) rfl hR24 rfl (vin_lt hb.1 hb.2) ((hH28.h hb.1 hb.2).1) rfl ?_
                    refine ra_st (k := 6) rfl hR24 rfl (vin_lt (by rw [nI_val (by omega)]; omega) (by rw [nI_val (by omega)]; omega)) (fun M29 R30 hR31 e32 g33 f34 => ?_)
                    show ml _ _ _ (206, [(3, .int (nI S)), (0, .ref m0), (1, .int x1), (2, .int hh)], [], M29) _
                    refine ml_st (S' := (207, [(3, .int (nI S)), (0, .ref m0), (1, .int x1), (2, .int hh)], [.ref m0], M29)) rfl rfl rfl ?_
                    refine rg_ref (S' := (210, [(3, .int (nI S)), (0, .ref m0), (1, .int x1), (2, .int hh)], [.ref (q 7)], M29)) rfl hR31 rfl rfl ?_
                    refine ml_blk 2 (S' := (212, [(3, .int (nI S)), (0, .ref m0), (1, .int x1), (2, .int hh)], [.int (nI S), .int hh, .ref (q 7)], M29)) rfl ?_
                    refine ra_st (k := 7) rfl hR31 rfl (vin_lt hb.1 hb.2) (fun M35 R36 hR37 e38 g39 f40 => ?_)
                    show ml _ _ _ (213, [(3, .int (nI S)), (0, .ref m0), (1, .int x1), (2, .int hh)], [], M35) _
                    refine ml_blk 2 (S' := (215, [(3, .int (nI S)), (0, .ref m0), (1, .int x1), (2, .int hh)], [.ref m0, .ref m0], M35)) rfl ?_
                    refine rg_int (S' := (218, [(3, .int (nI S)), (0, .ref m0), (1, .int x1), (2, .int hh)], [.int (nI cN), .ref m0], M35)) rfl hR37 rfl ((f15 3 (by decide)).trans ((hI_137 3 (by decide)).trans (hY.2.1))) rfl ?_
                    refine ml_blk 2 (S' := (220, [(3, .int (nI S)), (0, .ref m0), (1, .int x1), (2, .int hh)], [.int ((nI cN) + x1), .ref m0], M35)) rfl ?_
                    refine rp_int rfl hR37 rfl (fun M41 I42 hR43 e44 f45 => ?_)
                    show ml _ _ _ (223, [(3, .int (nI S)), (0, .ref m0), (1, .int x1), (2, .int hh)], [], M41) _
                    refine ml_st (S' := (224, [(3, .int (nI S)), (0, .ref m0), (1, .int x1), (2, .int hh)], [.int (nI S)], M41)) rfl rfl rfl ?_
                    exact ml_ret rfl (rfl) (⟨_, _, _, rfl, hR43, (((eqI.rf.tr hI_137 (by decide)).put f15 (by decide)).put f45 (by decide)), (((((eqR.rf.tr hV_137 (by decide)).put f21 (by decide)).put f27 (by decide)).put f34 (by decide)).put f40 (by decide)), sym_new (R1 := R_137) hY hH hU hm hroom hS hb hc1 (fun j hj => hc2 j (by have := i_le c_139; omega)) ((f40 1 (by decide)).trans ((f34 1 (by decide)).trans ((f27 1 (by decide)).trans (f21 1 (by decide))))) ((congrFun ((f40 4 (by decide)).trans ((f34 4 (by decide)).trans (f27 4 (by decide)))) _).trans e19) (fun b hb => (congrFun ((f40 4 (by decide)).trans ((f34 4 (by decide)).trans (f27 4 (by decide)))) b).trans ((g20 b hb).trans (congrFun (hV_137 4 (by decide)) b))) ((congrFun ((f40 5 (by decide)).trans (f34 5 (by decide))) _).trans e25) (fun b hb => (congrFun ((f40 5 (by decide)).trans (f34 5 (by decide))) b).trans ((g26 b hb).trans (congrFun ((f21 5 (by decide)).trans (hV_137 5 (by decide))) b))) ((congrFun (f40 6 (by decide)) _).trans e32) (fun b hb => (congrFun (f40 6 (by decide)) b).trans ((g33 b hb).trans (congrFun ((f27 6 (by decide)).trans ((f21 6 (by decide)).trans (hV_137 6 (by decide)))) b))) ((congrFun (rfl) _).trans e38) (fun b hb => (congrFun (rfl) b).trans ((g39 b hb).trans (congrFun ((f34 7 (by decide)).trans ((f27 7 (by decide)).trans ((f21 7 (by decide)).trans (hV_137 7 (by decide))))) b))) ((f45 8 (by decide)).trans (e14)) (e44)⟩)
                  · have c_139 : ¬ (x1 ≤ i137_3) := of_decide_eq_false c_139
                    refine ml_st (S' := (143, [(0, .ref m0), (1, .int x1), (2, .int hh), (3, .int i137_3)], [.ref m0], M_137)) rfl rfl rfl ?_
                    refine rg_ref (S' := (146, [(0, .ref m0), (1, .int x1), (2, .int hh), (3, .int i137_3)], [.ref (q 1)], M_137)) rfl hR_137 rfl rfl ?_
                    refine ml_st (S' := (147, [(0, .ref m0), (1, .int x1), (2, .int hh), (3, .int i137_3)], [.ref m0, .ref (q 1)], M_137)) rfl rfl rfl ?_
                    refine rg_int (S' := (150, [(0, .ref m0), (1, .int x1), (2, .int hh), (3, .int i137_3)], [.int (nI cN), .ref (q 1)], M_137)) rfl hR_137 rfl ((hI_137 3 (by decide)).trans (hY.2.1)) rfl ?_
                    refine ml_blk 3 (S' := (153, [(0, .ref m0), (1, .int x1), (2, .int hh), (3, .int i137_3)], [.ref m0, .int ((nI cN) + i137_3), .ref (q 1)], M_137)) rfl ?_
                    refine rg_ref (S' := (156, [(0, .ref m0), (1, .int x1), (2, .int hh), (3, .int i137_3)], [.ref (q 2), .int ((nI cN) + i137_3), .ref (q 1)], M_137)) rfl hR_137 rfl rfl ?_
                    refine ml_st (S' := (157, [(0, .ref m0), (1, .int x1), (2, .int hh), (3, .int i137_3)], [.int i137_3, .ref (q 2), .int ((nI cN) + i137_3), .ref (q 1)], M_137)) rfl rfl rfl ?_
                    have hU46 : CU m cu I_137 R_137 := (hU.mono (cIx hI_137 (by decide)) (cRx hV_137 (by decide)))
                    refine ra_ld (k := 2) (S' := (158, [(0, .ref m0), (1, .int x1), (2, .int hh), (3, .int i137_3)], [.int (cu (Int32.toNatClampNeg i137_3)), .int ((nI cN) + i137_3), .ref (q 1)], M_137)) rfl hR_137 rfl (vin_lt hk0 (by have := i_nle c_139; omega)) ((hU46.iat hk0 (by have := i_nle c_139; omega)).1) rfl ?_
                    have ex : (nI cN + i137_3).toInt = cN + i137_3.toInt := by have := i_nle c_139; rw [i_add (by rw [nI_val (by omega)]; omega) (by rw [nI_val (by omega)]; omega), nI_val (by omega)]
                    have en : (nI cN + i137_3).toNatClampNeg = cN + i137_3.toInt.toNat := by show (nI cN + i137_3).toInt.toNat = _; omega
                    refine ra_st (k := 1) rfl hR_137 rfl (vin_lt (by omega) (by have := i_nle c_139; omega)) (fun M47 R48 hR49 e50 g51 f52 => ?_)
                    show ml _ _ _ (159, [(0, .ref m0), (1, .int x1), (2, .int hh), (3, .int i137_3)], [], M47) _
                    refine ml_st (S' := (162, [(3, .int (i137_3 + 1)), (0, .ref m0), (1, .int x1), (2, .int hh)], [], M47)) rfl rfl rfl ?_
                    refine ml_st (S' := (137, [(0, .ref m0), (1, .int x1), (2, .int hh), (3, .int (i137_3 + 1))], [], M47)) rfl rfl rfl ?_
                    have hn1 := inc_lt (Int32.not_le.mp c_139)
                    rw [en] at e50 g51
                    have hcu := (hU46.iat hk0 (by have := i_nle c_139; omega)).2
                    exact ih_137 (i137_3 + 1) _ _ _ (loop_inc (Int32.not_le.mp c_139) hn_137) hR49 (eqI.rf.tr hI_137 (by decide)) ((eqR.rf.tr hV_137 (by decide)).put f52 (by decide)) (⟨by omega, by have := i_nle c_139; omega, fun i hi => (g51 i (by omega)).trans (hc1 i hi), fun j hj => by by_cases e9 : j = i137_3.toInt.toNat; (subst e9; rw [e50, nar16 hcu]; rfl); (rw [g51 _ (by omega)]; exact hc2 j (by omega))⟩)
              exact L_137 _ 0 _ _ _ (Nat.le_refl _) hR eqI.rf eqR.rf (⟨by decide, by show (0 : Int) ≤ _; omega, fun i hi => (hY.2.2.2.2.2 i hi).1, fun j hj => absurd hj (Nat.not_lt_zero j)⟩)
            · have c_47 : ¬ (i46_3 < 0) := of_decide_eq_false c_47
              have h47 := nneg c_47
              have hs9 := hY.s h47 hi_46.2
              refine ml_st (S' := (51, [(0, .ref m0), (1, .int x1), (2, .int hh), (3, .int i46_3)], [.ref m0], M)) rfl rfl rfl ?_
              refine rg_ref (S' := (54, [(0, .ref m0), (1, .int x1), (2, .int hh), (3, .int i46_3)], [.ref (q 5)], M)) rfl hR rfl rfl ?_
              refine ml_st (S' := (55, [(0, .ref m0), (1, .int x1), (2, .int hh), (3, .int i46_3)], [.int i46_3, .ref (q 5)], M)) rfl rfl rfl ?_
              refine ra_ld (k := 5) (S' := (56, [(0, .ref m0), (1, .int x1), (2, .int hh), (3, .int i46_3)], [.int (sl (Int32.toNatClampNeg i46_3))], M)) rfl hR rfl (hs9.2.2.2.2.2.2) (hs9.2.1) rfl ?_
              refine ml_st (S' := (57, [(0, .ref m0), (1, .int x1), (2, .int hh), (3, .int i46_3)], [.int x1, .int (sl (Int32.toNatClampNeg i46_3))], M)) rfl rfl rfl ?_
              have J_65 : ∀ (s65_0 : Int32), (s65_0 = 0 ∨ sl (Int32.toNatClampNeg i46_3) = x1) → ml (mT g) d (mb_245 g).2 (65, [(0, .ref m0), (1, .int x1), (2, .int hh), (3, .int i46_3)], [.int s65_0], M) (fun v M' => ∃ (x : Int32) (I' : rI) (R' : rR), v = some (.int x) ∧ RS g m0 q z I' R' M' ∧ eqI [3, 8] I I' ∧ eqR [1, 4, 5, 6, 7] R R' ∧ SX S cN m sa sl ch x I' R') := by
                intro s65_0 hj_65
                refine ml_st (S' := (67, [(4, .int s65_0), (0, .ref m0), (1, .int x1), (2, .int hh), (3, .int i46_3)], [], M)) rfl rfl rfl ?_
                refine ml_st (S' := (68, [(4, .int s65_0), (0, .ref m0), (1, .int x1), (2, .int hh), (3, .int i46_3)], [.int 0], M)) rfl rfl rfl ?_
                refine ml_st (S' := (70, [(0, .ref m0), (1, .int x1), (2, .int hh), (3, .int i46_3), (4, .int s65_0), (5, .int 0)], [], M)) rfl rfl rfl ?_
                have L_70 : ∀ (n_70 : Nat) (i70_4 : Int32) (i70_5 : Int32), (2147483648 - i70_5.toInt).toNat ≤ n_70 → (0 ≤ i70_5.toInt ∧ (i70_4 = 0 ∨ sl (Int32.toNatClampNeg i46_3) = x1)) → ml (mT g) d (mb_245 g).2 (70, [(0, .ref m0), (1, .int x1), (2, .int hh), (3, .int i46_3), (4, .int i70_4), (5, .int i70_5)], [], M) (fun v M' => ∃ (x : Int32) (I' : rI) (R' : rR), v = some (.int x) ∧ RS g m0 q z I' R' M' ∧ eqI [3, 8] I I' ∧ eqR [1, 4, 5, 6, 7] R R' ∧ SX S cN m sa sl ch x I' R') := by
                  intro n_70
                  induction n_70 with
                  | zero => intro i70_4 i70_5 hn; exact (loop_zero hn).elim
                  | succ n_70 ih_70 =>
                    intro i70_4 i70_5 hn_70 hi_70
                    refine ml_blk 2 (S' := (73, [(0, .ref m0), (1, .int x1), (2, .int hh), (3, .int i46_3), (4, .int i70_4), (5, .int i70_5)], [.int x1, .int i70_5], M)) rfl ?_
                    refine ml_if2 (S1 := (118, [(0, .ref m0), (1, .int x1), (2, .int hh), (3, .int i46_3), (4, .int i70_4)], [], M)) (S2 := (76, [(0, .ref m0), (1, .int x1), (2, .int hh), (3, .int i46_3), (4, .int i70_4), (5, .int i70_5)], [], M)) rfl rfl rfl (fun c_73 => ?_) (fun c_73 => ?_)
                    · have c_73 : x1 ≤ i70_5 := of_decide_eq_true c_73
                      refine ml_st (S' := (120, [(0, .ref m0), (1, .int x1), (2, .int hh), (3, .int i46_3), (4, .int i70_4)], [.int i70_4], M)) rfl rfl rfl ?_
                      refine ml_if (S1 := (125, [(0, .ref m0), (1, .int x1), (2, .int hh), (3, .int i46_3), (4, .int i70_4)], [], M)) (S2 := (123, [(0, .ref m0), (1, .int x1), (2, .int hh), (3, .int i46_3), (4, .int i70_4)], [], M)) rfl rfl rfl (fun c_120 => ?_) (fun c_120 => ?_)
                      · have c_120 : i70_4 = 0 := of_decide_eq_true c_120
                        refine ml_st (S' := (126, [(0, .ref m0), (1, .int x1), (2, .int hh), (3, .int i46_3), (4, .int i70_4)], [.ref m0], M)) rfl rfl rfl ?_
                        refine rg_ref (S' := (129, [(0, .ref m0), (1, .int x1), (2, .int hh), (3, .int i46_3), (4, .int i70_4)], [.ref (q 6)], M)) rfl hR rfl rfl ?_
                        refine ml_st (S' := (130, [(0, .ref m0), (1, .int x1), (2, .int hh), (3, .int i46_3), (4, .int i70_4)], [.int i46_3, .ref (q 6)], M)) rfl rfl rfl ?_
                        refine ra_ld (k := 6) (S' := (131, [(0, .ref m0), (1, .int x1), (2, .int hh), (3, .int i46_3), (4, .int i70_4)], [.int (nx (Int32.toNatClampNeg i46_3))], M)) rfl hR rfl (hs9.2.2.2.2.2.2) ((hH.n h47 hi_46.2).1) rfl ?_
                        refine ml_st (S' := (132, [(3, .int (nx (Int32.toNatClampNeg i46_3))), (0, .ref m0), (1, .int x1), (2, .int hh), (4, .int i70_4)], [], M)) rfl rfl rfl ?_
                        refine ml_st (S' := (46, [(0, .ref m0), (1, .int x1), (2, .int hh), (3, .int (nx (Int32.toNatClampNeg i46_3)))], [], M)) rfl rfl rfl ?_
                        exact ih_46 (nx (Int32.toNatClampNeg i46_3)) (by have := (hH.n h47 hi_46.2).2.2; omega) (⟨(hH.n h47 hi_46.2).2.1, by have := (hH.n h47 hi_46.2).2.2; have := hi_46.2; omega⟩)
                      · have c_120 : ¬ (i70_4 = 0) := of_decide_eq_false c_120
                        refine ml_st (S' := (124, [(0, .ref m0), (1, .int x1), (2, .int hh), (3, .int i46_3), (4, .int i70_4)], [.int i46_3], M)) rfl rfl rfl ?_
                        exact ml_ret rfl (rfl) (⟨_, _, _, rfl, hR, eqI.rf, eqR.rf, ⟨S, cN, sa, sl, ch, he, nx, hY, hH, h47, hi_46.2, Nat.le_refl _, by omega, Nat.le_refl _, by omega, fun _ _ => ⟨rfl, rfl⟩, fun _ _ => rfl⟩⟩)
                    · have c_73 : ¬ (x1 ≤ i70_5) := of_decide_eq_false c_73
                      refine ml_st (S' := (78, [(0, .ref m0), (1, .int x1), (2, .int hh), (3, .int i46_3), (4, .int i70_4), (5, .int i70_5)], [.int i70_4], M)) rfl rfl rfl ?_
                      refine ml_if (S1 := (118, [(0, .ref m0), (1, .int x1), (2, .int hh), (3, .int i46_3), (4, .int i70_4)], [], M)) (S2 := (81, [(0, .ref m0), (1, .int x1), (2, .int hh), (3, .int i46_3), (4, .int i70_4), (5, .int i70_5)], [], M)) rfl rfl rfl (fun c_78 => ?_) (fun c_78 => ?_)
                      · have c_78 : i70_4 = 0 := of_decide_eq_true c_78
                        refine ml_st (S' := (120, [(0, .ref m0), (1, .int x1), (2, .int hh), (3, .int i46_3), (4, .int i70_4)], [.int i70_4], M)) rfl rfl rfl ?_
                        refine ml_if (S1 := (125, [(0, .ref m0), (1, .int x1), (2, .int hh), (3, .int i46_3), (4, .int i70_4)], [], M)) (S2 := (123, [(0, .ref m0), (1, .int x1), (2, .int hh), (3, .int i46_3), (4, .int i70_4)], [], M)) rfl rfl rfl (fun c_120 => ?_) (fun c_120 => ?_)
                        · have c_120 : i70_4 = 0 := of_decide_eq_true c_120
                          refine ml_st (S' := (126, [(0, .ref m0), (1, .int x1), (2, .int hh), (3, .int i46_3), (4, .int i70_4)], [.ref m0], M)) rfl rfl rfl ?_
                          refine rg_ref (S' := (129, [(0, .ref m0), (1, .int x1), (2, .int hh), (3, .int i46_3), (4, .int i70_4)], [.ref (q 6)], M)) rfl hR rfl rfl ?_
                          refine ml_st (S' := (130, [(0, .ref m0), (1, .int x1), (2, .int hh), (3, .int i46_3), (4, .int i70_4)], [.int i46_3, .ref (q 6)], M)) rfl rfl rfl ?_
                          refine ra_ld (k := 6) (S' := (131, [(0, .ref m0), (1, .int x1), (2, .int hh), (3, .int i46_3), (4, .int i70_4)], [.int (nx (Int32.toNatClampNeg i46_3))], M)) rfl hR rfl (hs9.2.2.2.2.2.2) ((hH.n h47 hi_46.2).1) rfl ?_
                          refine ml_st (S' := (132, [(3, .int (nx (Int32.toNatClampNeg i46_3))), (0, .ref m0), (1, .int x1), (2, .int hh), (4, .int i70_4)], [], M)) rfl rfl rfl ?_
                          refine ml_st (S' := (46, [(0, .ref m0), (1, .int x1), (2, .int hh), (3, .int (nx (Int32.toNatClampNeg i46_3)))], [], M)) rfl rfl rfl ?_
                          exact ih_46 (nx (Int32.toNatClampNeg i46_3)) (by have := (hH.n h47 hi_46.2).2.2; omega) (⟨(hH.n h47 hi_46.2).2.1, by have := (hH.n h47 hi_46.2).2.2; have := hi_46.2; omega⟩)
                        · have c_120 : ¬ (i70_4 = 0) := of_decide_eq_false c_120
                          refine ml_st (S' := (124, [(0, .ref m0), (1, .int x1), (2, .int hh), (3, .int i46_3), (4, .int i70_4)], [.int i46_3], M)) rfl rfl rfl ?_
                          exact ml_ret rfl (rfl) (⟨_, _, _, rfl, hR, eqI.rf, eqR.rf, ⟨S, cN, sa, sl, ch, he, nx, hY, hH, h47, hi_46.2, Nat.le_refl _, by omega, Nat.le_refl _, by omega, fun _ _ => ⟨rfl, rfl⟩, fun _ _ => rfl⟩⟩)
                      · have c_78 : ¬ (i70_4 = 0) := of_decide_eq_false c_78
                        refine ml_st (S' := (82, [(0, .ref m0), (1, .int x1), (2, .int hh), (3, .int i46_3), (4, .int i70_4), (5, .int i70_5)], [.ref m0], M)) rfl rfl rfl ?_
                        refine rg_ref (S' := (85, [(0, .ref m0), (1, .int x1), (2, .int hh), (3, .int i46_3), (4, .int i70_4), (5, .int i70_5)], [.ref (q 1)], M)) rfl hR rfl rfl ?_
                        refine ml_st (S' := (86, [(0, .ref m0), (1, .int x1), (2, .int hh), (3, .int i46_3), (4, .int i70_4), (5, .int i70_5)], [.ref m0, .ref (q 1)], M)) rfl rfl rfl ?_
                        refine rg_ref (S' := (89, [(0, .ref m0), (1, .int x1), (2, .int hh), (3, .int i46_3), (4, .int i70_4), (5, .int i70_5)], [.ref (q 4), .ref (q 1)], M)) rfl hR rfl rfl ?_
                        refine ml_st (S' := (90, [(0, .ref m0), (1, .int x1), (2, .int hh), (3, .int i46_3), (4, .int i70_4), (5, .int i70_5)], [.int i46_3, .ref (q 4), .ref (q 1)], M)) rfl rfl rfl ?_
                        refine ra_ld (k := 4) (S' := (91, [(0, .ref m0), (1, .int x1), (2, .int hh), (3, .int i46_3), (4, .int i70_4), (5, .int i70_5)], [.int (sa (Int32.toNatClampNeg i46_3)), .ref (q 1)], M)) rfl hR rfl (hs9.2.2.2.2.2.2) (hs9.1) rfl ?_
                        refine ml_blk 2 (S' := (94, [(0, .ref m0), (1, .int x1), (2, .int hh), (3, .int i46_3), (4, .int i70_4), (5, .int i70_5)], [.int ((sa (Int32.toNatClampNeg i46_3)) + i70_5), .ref (q 1)], M)) rfl ?_
                        have hch := hY.t h47 hi_46.2 hi_70.1 (by have := i_nle c_73; have e := hi_70.2.resolve_left c_78; rw [e]; omega)
                        refine ra_ld (k := 1) (S' := (95, [(0, .ref m0), (1, .int x1), (2, .int hh), (3, .int i46_3), (4, .int i70_4), (5, .int i70_5)], [.int (ch (Int32.toNatClampNeg ((sa (Int32.toNatClampNeg i46_3)) + i70_5)))], M)) rfl hR rfl (hch.2.2) (hch.1) rfl ?_
                        refine ml_st (S' := (96, [(0, .ref m0), (1, .int x1), (2, .int hh), (3, .int i46_3), (4, .int i70_4), (5, .int i70_5)], [.ref m0, .int (ch (Int32.toNatClampNeg ((sa (Int32.toNatClampNeg i46_3)) + i70_5)))], M)) rfl rfl rfl ?_
                        refine rg_ref (S' := (99, [(0, .ref m0), (1, .int x1), (2, .int hh), (3, .int i46_3), (4, .int i70_4), (5, .int i70_5)], [.ref (q 2), .int (ch (Int32.toNatClampNeg ((sa (Int32.toNatClampNeg i46_3)) + i70_5)))], M)) rfl hR rfl rfl ?_
                        refine ml_st (S' := (101, [(0, .ref m0), (1, .int x1), (2, .int hh), (3, .int i46_3), (4, .int i70_4), (5, .int i70_5)], [.int i70_5, .ref (q 2), .int (ch (Int32.toNatClampNeg ((sa (Int32.toNatClampNeg i46_3)) + i70_5)))], M)) rfl rfl rfl ?_
                        refine ra_ld (k := 2) (S' := (102, [(0, .ref m0), (1, .int x1), (2, .int hh), (3, .int i46_3), (4, .int i70_4), (5, .int i70_5)], [.int (cu (Int32.toNatClampNeg i70_5)), .int (ch (Int32.toNatClampNeg ((sa (Int32.toNatClampNeg i46_3)) + i70_5)))], M)) rfl hR rfl (vin_lt hi_70.1 (by have := i_nle c_73; omega)) ((hU.iat hi_70.1 (by have := i_nle c_73; omega)).1) rfl ?_
                        refine ml_if2 (S1 := (109, [(0, .ref m0), (1, .int x1), (2, .int hh), (3, .int i46_3), (4, .int i70_4), (5, .int i70_5)], [], M)) (S2 := (105, [(0, .ref m0), (1, .int x1), (2, .int hh), (3, .int i46_3), (4, .int i70_4), (5, .int i70_5)], [], M)) rfl rfl rfl (fun c_102 => ?_) (fun c_102 => ?_)
                        · have c_102 : ¬ (ch (Int32.toNatClampNeg ((sa (Int32.toNatClampNeg i46_3)) + i70_5))) = (cu (Int32.toNatClampNeg i70_5)) := of_decide_eq_true c_102
                          refine ml_st (S' := (110, [(0, .ref m0), (1, .int x1), (2, .int hh), (3, .int i46_3), (5, .int i70_5)], [.int 0], M)) rfl rfl rfl ?_
                          refine ml_st (S' := (112, [(4, .int 0), (0, .ref m0), (1, .int x1), (2, .int hh), (3, .int i46_3), (5, .int i70_5)], [], M)) rfl rfl rfl ?_
                          refine ml_st (S' := (115, [(5, .int (i70_5 + 1)), (4, .int 0), (0, .ref m0), (1, .int x1), (2, .int hh), (3, .int i46_3)], [], M)) rfl rfl rfl ?_
                          refine ml_st (S' := (70, [(0, .ref m0), (1, .int x1), (2, .int hh), (3, .int i46_3), (4, .int 0), (5, .int (i70_5 + 1))], [], M)) rfl rfl rfl ?_
                          exact ih_70 0 (i70_5 + 1) (loop_inc (Int32.not_le.mp c_73) hn_70) (⟨by rw [inc_lt (Int32.not_le.mp c_73)]; have := hi_70.1; omega, Or.inr (hi_70.2.resolve_left c_78)⟩)
                        · have c_102 : ¬ (¬ (ch (Int32.toNatClampNeg ((sa (Int32.toNatClampNeg i46_3)) + i70_5))) = (cu (Int32.toNatClampNeg i70_5))) := of_decide_eq_false c_102
                          refine ml_st (S' := (106, [(0, .ref m0), (1, .int x1), (2, .int hh), (3, .int i46_3), (4, .int i70_4), (5, .int i70_5)], [.int 1], M)) rfl rfl rfl ?_
                          refine ml_st (S' := (110, [(0, .ref m0), (1, .int x1), (2, .int hh), (3, .int i46_3), (5, .int i70_5)], [.int 1], M)) rfl rfl rfl ?_
                          refine ml_st (S' := (112, [(4, .int 1), (0, .ref m0), (1, .int x1), (2, .int hh), (3, .int i46_3), (5, .int i70_5)], [], M)) rfl rfl rfl ?_
                          refine ml_st (S' := (115, [(5, .int (i70_5 + 1)), (4, .int 1), (0, .ref m0), (1, .int x1), (2, .int hh), (3, .int i46_3)], [], M)) rfl rfl rfl ?_
                          refine ml_st (S' := (70, [(0, .ref m0), (1, .int x1), (2, .int hh), (3, .int i46_3), (4, .int 1), (5, .int (i70_5 + 1))], [], M)) rfl rfl rfl ?_
                          exact ih_70 1 (i70_5 + 1) (loop_inc (Int32.not_le.mp c_73) hn_70) (⟨by rw [inc_lt (Int32.not_le.mp c_73)]; have := hi_70.1; omega, Or.inr (hi_70.2.resolve_left c_78)⟩)
                exact L_70 _ s65_0 0 (Nat.le_refl _) (⟨by decide, hj_65⟩)
              refine ml_if2 (S1 := (64, [(0, .ref m0), (1, .int x1), (2, .int hh), (3, .int i46_3)], [], M)) (S2 := (60, [(0, .ref m0), (1, .int x1), (2, .int hh), (3, .int i46_3)], [], M)) rfl rfl rfl (fun c_57 => ?_) (fun c_57 => ?_)
              · have c_57 : ¬ (sl (Int32.toNatClampNeg i46_3)) = x1 := of_decide_eq_true c_57
                refine ml_st (S' := (65, [(0, .ref m0), (1, .int x1), (2, .int hh), (3, .int i46_3)], [.int 0], M)) rfl rfl rfl ?_
                exact J_65 0 (Or.inl rfl)
              · have c_57 : ¬ (¬ (sl (Int32.toNatClampNeg i46_3)) = x1) := of_decide_eq_false c_57
                refine ml_st (S' := (61, [(0, .ref m0), (1, .int x1), (2, .int hh), (3, .int i46_3)], [.int 1], M)) rfl rfl rfl ?_
                refine ml_st (S' := (65, [(0, .ref m0), (1, .int x1), (2, .int hh), (3, .int i46_3)], [.int 1], M)) rfl rfl rfl ?_
                exact J_65 1 (Or.inr (Decidable.not_not.mp c_57))
        exact L_46 _ (he (Int32.toNatClampNeg hh)) (Nat.le_refl _) (⟨(hH.h hb.1 hb.2).2.1, (hH.h hb.1 hb.2).2.2⟩)
      · have c_7 : ¬ (x1 ≤ i5_3) := of_decide_eq_false c_7
        refine ml_blk 3 (S' := (14, [(0, .ref m0), (1, .int x1), (2, .int i5_2), (3, .int i5_3)], [.int (31 * i5_2)], M)) rfl ?_
        refine ml_st (S' := (15, [(0, .ref m0), (1, .int x1), (2, .int i5_2), (3, .int i5_3)], [.ref m0, .int (31 * i5_2)], M)) rfl rfl rfl ?_
        refine rg_ref (S' := (18, [(0, .ref m0), (1, .int x1), (2, .int i5_2), (3, .int i5_3)], [.ref (q 2), .int (31 * i5_2)], M)) rfl hR rfl rfl ?_
        refine ml_st (S' := (19, [(0, .ref m0), (1, .int x1), (2, .int i5_2), (3, .int i5_3)], [.int i5_3, .ref (q 2), .int (31 * i5_2)], M)) rfl rfl rfl ?_
        refine ra_ld (k := 2) (S' := (20, [(0, .ref m0), (1, .int x1), (2, .int i5_2), (3, .int i5_3)], [.int (cu (Int32.toNatClampNeg i5_3)), .int (31 * i5_2)], M)) rfl hR rfl (vin_lt hi_5 (by have := i_nle c_7; omega)) ((hU.iat hi_5 (by have := i_nle c_7; omega)).1) rfl ?_
        refine ml_st (S' := (21, [(0, .ref m0), (1, .int x1), (2, .int i5_2), (3, .int i5_3)], [.int ((31 * i5_2) + (cu (Int32.toNatClampNeg i5_3)))], M)) rfl rfl rfl ?_
        refine ml_st (S' := (22, [(2, .int ((31 * i5_2) + (cu (Int32.toNatClampNeg i5_3)))), (0, .ref m0), (1, .int x1), (3, .int i5_3)], [], M)) rfl rfl rfl ?_
        refine ml_st (S' := (25, [(3, .int (i5_3 + 1)), (2, .int ((31 * i5_2) + (cu (Int32.toNatClampNeg i5_3)))), (0, .ref m0), (1, .int x1)], [], M)) rfl rfl rfl ?_
        refine ml_st (S' := (5, [(0, .ref m0), (1, .int x1), (2, .int ((31 * i5_2) + (cu (Int32.toNatClampNeg i5_3)))), (3, .int (i5_3 + 1))], [], M)) rfl rfl rfl ?_
        exact ih_5 ((31 * i5_2) + (cu (Int32.toNatClampNeg i5_3))) (i5_3 + 1) (loop_inc (Int32.not_le.mp c_7) hn_5) (by rw [inc_lt (Int32.not_le.mp c_7)]; omega)
  exact L_5 _ 7 0 (Nat.le_refl _) (by decide)
