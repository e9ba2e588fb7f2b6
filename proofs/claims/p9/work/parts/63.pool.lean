/-! the reference: the pool is read (laid by wip/p2/c63.py) -/
theorem esz_ge {t : Int32} : 3 ≤ esz t := by
  unfold esz
  split
  · omega
  · split
    · omega
    · split <;> omega

set_option maxHeartbeats 2000000 in
theorem rm_readPool {g : xe_G}  {m0 : Nat} {q : Nat → Nat} {z : Nat × Nat} {I : rI} {R : rR} {M : mi_H} {p0 cp mj : Int32} {n : Nat} {f : Nat → Int32} {S cN : Nat}  (hR : RS g m0 q z I R M) (hk20 : I 20 = some 0) (hk50 : I 50 = some p0) (hk52 : I 52 = some cp) (hk53 : I 53 = some mj) (hF : FK n f I R) (hZ : SYM S cN I R) (hp0 : 0 ≤ p0.toInt) (hpn : p0.toInt ≤ n) (hc1 : 1 ≤ cp.toInt) (hc2 : cp.toInt ≤ 65535) (hS3 : S ≤ 3) (hC3 : cN ≤ 30) {d : Nat} (hd : 3 ≤ d) : mt (mT g) d 238 [.ref m0] M (fun v M' => ∃ (x : Int32) (I' : rI) (R' : rR), v = some (.int x) ∧ RS g m0 q z I' R' M' ∧ eqI [3, 8, 20, 47, 48, 50, 51] I I' ∧ eqR [1, 2, 4, 5, 6, 7, 21, 22] R R' ∧ (x = 0 ∨ x = 1) ∧ (x = 0 ∨ ∃ (S' cN' : Nat) (p1 : Int32), SYM S' cN' I' R' ∧ I' 50 = some p1 ∧ p0.toInt ≤ p1.toInt ∧ p1.toInt ≤ n ∧ I' 51 = some 0 ∧ PEN f n S' cp.toInt.toNat R')) := by
  obtain ⟨d, rfl⟩ : ∃ e, d = e + 1 := ⟨d - 1, by omega⟩
  refine mt_in (b := mb_238 g) rfl rfl ?_
  show ml (mT g) d (mb_238 g).2 (0, [(0, .ref m0)], [], M) _
  have hn := hF.1
  have l2 : (2 : Int64).toInt = 2 := rfl
  have l4 : (4 : Int64).toInt = 4 := rfl
  have l1 : (1 : Int64).toInt = 1 := rfl
  refine ml_blk 2 (S' := (2, [(0, .ref m0)], [.ref m0, .ref m0], M)) rfl ?_
  refine rg_int (S' := (5, [(0, .ref m0)], [.int 0, .ref m0], M)) rfl hR rfl (hk20) rfl ?_
  refine rp_int rfl hR rfl (fun M11 I12 hR13 e14 f15 => ?_)
  show ml _ _ _ (8, [(0, .ref m0)], [], M11) _
  refine ml_st (S' := (9, [(0, .ref m0)], [.ref m0], M11)) rfl rfl rfl ?_
  refine rg_ref (S' := (12, [(0, .ref m0)], [.ref (q 21)], M11)) rfl hR13 rfl rfl ?_
  refine ml_st (S' := (13, [(0, .ref m0)], [.ref m0, .ref (q 21)], M11)) rfl rfl rfl ?_
  refine rg_int (S' := (16, [(0, .ref m0)], [.int 0, .ref (q 21)], M11)) rfl hR13 rfl (e14) rfl ?_
  refine ml_st (S' := (17, [(0, .ref m0)], [.int (-1), .int 0, .ref (q 21)], M11)) rfl rfl rfl ?_
  refine ra_st (k := 21) rfl hR13 rfl (vin_lt (by decide) (by decide)) (fun M16 R17 hR18 e19 g20 f21 => ?_)
  show ml _ _ _ (18, [(0, .ref m0)], [], M16) _
  refine ml_st (S' := (19, [(0, .ref m0)], [.int 1], M16)) rfl rfl rfl ?_
  refine ml_st (S' := (20, [(0, .ref m0), (1, .int 1)], [], M16)) rfl rfl rfl ?_
  have L_20 : ∀ (n_20 : Nat) (i20_1 : Int32) (pp : Int32) (Sx : Nat) (Cx : Nat) (M_20 : mi_H) (I_20 : rI) (R_20 : rR), (2147483648 - i20_1.toInt).toNat ≤ n_20 → RS g m0 q z I_20 R_20 M_20 → eqI [3, 8, 47, 48, 50] I12 I_20 → eqR [1, 2, 4, 5, 6, 7, 21, 22] R17 R_20 → (I_20 50 = some pp ∧ p0.toInt ≤ pp.toInt ∧ pp.toInt ≤ n ∧ 1 ≤ i20_1.toInt ∧ i20_1.toInt ≤ cp.toInt ∧ SYM Sx Cx I_20 R_20 ∧ 3 * (Sx : Int) ≤ pp.toInt + 9 ∧ (Cx : Int) ≤ pp.toInt + 30 ∧ PEN f n Sx i20_1.toInt.toNat R_20) → ml (mT g) d (mb_238 g).2 (20, [(0, .ref m0), (1, .int i20_1)], [], M_20) (fun v M' => ∃ (x : Int32) (I' : rI) (R' : rR), v = some (.int x) ∧ RS g m0 q z I' R' M' ∧ eqI [3, 8, 20, 47, 48, 50, 51] I I' ∧ eqR [1, 2, 4, 5, 6, 7, 21, 22] R R' ∧ (x = 0 ∨ x = 1) ∧ (x = 0 ∨ ∃ (S' cN' : Nat) (p1 : Int32), SYM S' cN' I' R' ∧ I' 50 = some p1 ∧ p0.toInt ≤ p1.toInt ∧ p1.toInt ≤ n ∧ I' 51 = some 0 ∧ PEN f n S' cp.toInt.toNat R')) := by
    intro n_20
    induction n_20 with
    | zero => intro i20_1 pp Sx Cx M_20 I_20 R_20 hn; exact (loop_zero hn).elim
    | succ n_20 ih_20 =>
      intro i20_1 pp Sx Cx M_20 I_20 R_20 hn_20 hR_20 hI_20 hV_20 hi_20
      obtain ⟨hi50, hpp0, hpp1, hk0, hk1, hz20, hsx, hcx, hpen⟩ := hi_20
      refine ml_blk 2 (S' := (22, [(0, .ref m0), (1, .int i20_1)], [.ref m0, .int i20_1], M_20)) rfl ?_
      refine rg_int (S' := (25, [(0, .ref m0), (1, .int i20_1)], [.int cp, .int i20_1], M_20)) rfl hR_20 rfl ((hI_20 52 (by decide)).trans ((f15 52 (by decide)).trans (hk52))) rfl ?_
      refine ml_if2 (S1 := (531, [(0, .ref m0), (1, .int i20_1)], [], M_20)) (S2 := (28, [(0, .ref m0), (1, .int i20_1)], [], M_20)) rfl rfl rfl (fun c_25 => ?_) (fun c_25 => ?_)
      · have c_25 : cp ≤ i20_1 := of_decide_eq_true c_25
        refine ml_blk 2 (S' := (533, [(0, .ref m0), (1, .int i20_1)], [.ref m0, .ref m0], M_20)) rfl ?_
        refine rg_int (S' := (536, [(0, .ref m0), (1, .int i20_1)], [.int 0, .ref m0], M_20)) rfl hR_20 rfl ((hI_20 51 (by decide)).trans (e14)) rfl ?_
        refine ml_st (S' := (537, [(0, .ref m0), (1, .int i20_1)], [.ref m0, .int 0, .ref m0], M_20)) rfl rfl rfl ?_
        refine rg_int (S' := (540, [(0, .ref m0), (1, .int i20_1)], [.int cp, .int 0, .ref m0], M_20)) rfl hR_20 rfl ((hI_20 52 (by decide)).trans ((f15 52 (by decide)).trans (hk52))) rfl ?_
        refine ml_st (S' := (541, [(0, .ref m0), (1, .int i20_1)], [.int (0 + cp), .ref m0], M_20)) rfl rfl rfl ?_
        refine rp_int rfl hR_20 rfl (fun M22 I23 hR24 e25 f26 => ?_)
        show ml _ _ _ (544, [(0, .ref m0), (1, .int i20_1)], [], M22) _
        refine ml_st (S' := (545, [(0, .ref m0), (1, .int i20_1)], [.int 1], M22)) rfl rfl rfl ?_
        have hZ27 : SYM Sx Cx I23 R_20 := (hz20.mono (pIx f26 (by decide)) (fun _ _ => rfl))
        exact ml_ret rfl (r_z (Or.inr rfl)) (⟨_, _, _, rfl, hR24, (((eqI.rf.put f15 (by decide)).tr hI_20 (by decide)).put f26 (by decide)), ((eqR.rf.put f21 (by decide)).tr hV_20 (by decide)), Or.inr rfl, Or.inr ⟨Sx, Cx, pp, hZ27, (f26 50 (by decide)).trans (hi50), hpp0, hpp1, (f26 51 (by decide)).trans ((hI_20 51 (by decide)).trans (e14)), by rw [show cp.toInt.toNat = i20_1.toInt.toNat by have := i_le c_25; omega]; exact hpen⟩⟩)
      · have c_25 : ¬ (cp ≤ i20_1) := of_decide_eq_false c_25
        refine ml_blk 2 (S' := (30, [(0, .ref m0), (1, .int i20_1)], [.long 1, .ref m0], M_20)) rfl ?_
        have hF28 : FK n f I_20 R_20 := (((hF.mono (pIx f15 (by decide)) (fun _ _ => rfl)).mono (fun _ _ => rfl) (pRx f21 (by decide))).mono (cIx hI_20 (by decide)) (cRx hV_20 (by decide)))
        refine ml_call (a := [.ref m0, .long 1]) (rest := []) rfl (hR_20.okc rfl rfl rfl) rfl rfl (rm_item hR_20 (hi50) hF28 (by omega) (by omega) (by decide) (by decide) (by omega)) (fun v29 M30 h31 => ?_)
        obtain ⟨u37, I32, R33, rfl, hR34, hI35, hV36, z38, w39⟩ := h31
        show ml _ _ _ (33, [(0, .ref m0), (1, .int i20_1)], [.int u37], M30) _
        refine ml_if (S1 := (38, [(0, .ref m0), (1, .int i20_1)], [], M30)) (S2 := (36, [(0, .ref m0), (1, .int i20_1)], [], M30)) rfl rfl rfl (fun c_33 => ?_) (fun c_33 => ?_)
        · have c_33 : ¬ u37 = 0 := of_decide_eq_true c_33
          have ha := w39.resolve_left c_33
          have hkk : (i20_1 + 1).toInt = i20_1.toInt + 1 := inc_lt (Int32.not_le.mp c_25)
          have hklt := i_nle c_25
          have hp1 : (pp + 1).toInt = pp.toInt + 1 := i_add (by have : (1 : Int32).toInt = 1 := rfl; omega) (by have : (1 : Int32).toInt = 1 := rfl; omega)
          refine ml_blk 2 (S' := (40, [(0, .ref m0), (1, .int i20_1)], [.ref m0, .ref m0], M30)) rfl ?_
          refine rg_int (S' := (43, [(0, .ref m0), (1, .int i20_1)], [.int pp, .ref m0], M30)) rfl hR34 rfl ((hI35 50 (by decide)).trans (hi50)) rfl ?_
          have hF40 : FK n f I32 R33 := (hF28.mono (cIx hI35 (by decide)) (cRx hV36 (by decide)))
          refine ml_call (a := [.ref m0, .int pp]) (rest := []) rfl (hR34.okc rfl rfl rfl) rfl rfl (rm_u1 hR34 hF40 (by omega) (by omega) (by omega)) (fun v41 M42 h43 => ?_)
          obtain ⟨rfl, h43⟩ := h43
          rw [h43]
          show ml _ _ _ (46, [(0, .ref m0), (1, .int i20_1)], [.int (f1 f pp)], M30) _
          refine ml_st (S' := (47, [(2, .int (f1 f pp)), (0, .ref m0), (1, .int i20_1)], [], M30)) rfl rfl rfl ?_
          refine ml_st (S' := (48, [(2, .int (f1 f pp)), (0, .ref m0), (1, .int i20_1)], [.ref m0], M30)) rfl rfl rfl ?_
          refine rg_int (S' := (51, [(2, .int (f1 f pp)), (0, .ref m0), (1, .int i20_1)], [.int pp], M30)) rfl hR34 rfl ((hI35 50 (by decide)).trans (hi50)) rfl ?_
          refine ml_st (S' := (52, [(3, .int pp), (2, .int (f1 f pp)), (0, .ref m0), (1, .int i20_1)], [], M30)) rfl rfl rfl ?_
          refine ml_st (S' := (53, [(3, .int pp), (2, .int (f1 f pp)), (0, .ref m0), (1, .int i20_1)], [.ref m0], M30)) rfl rfl rfl ?_
          refine rg_ref (S' := (56, [(3, .int pp), (2, .int (f1 f pp)), (0, .ref m0), (1, .int i20_1)], [.ref (q 21)], M30)) rfl hR34 rfl rfl ?_
          refine ml_st (S' := (57, [(3, .int pp), (2, .int (f1 f pp)), (0, .ref m0), (1, .int i20_1)], [.ref m0, .ref (q 21)], M30)) rfl rfl rfl ?_
          refine rg_int (S' := (60, [(3, .int pp), (2, .int (f1 f pp)), (0, .ref m0), (1, .int i20_1)], [.int 0, .ref (q 21)], M30)) rfl hR34 rfl ((hI35 51 (by decide)).trans ((hI_20 51 (by decide)).trans (e14))) rfl ?_
          refine ml_blk 3 (S' := (63, [(3, .int pp), (2, .int (f1 f pp)), (0, .ref m0), (1, .int i20_1)], [.int pp, .int (0 + i20_1), .ref (q 21)], M30)) rfl ?_
          refine ra_st (k := 21) rfl hR34 rfl (vin_z (by omega) (by omega)) (fun M44 R45 hR46 e47 g48 f49 => ?_)
          show ml _ _ _ (64, [(3, .int pp), (2, .int (f1 f pp)), (0, .ref m0), (1, .int i20_1)], [], M44) _
          refine ml_st (S' := (65, [(3, .int pp), (2, .int (f1 f pp)), (0, .ref m0), (1, .int i20_1)], [.ref m0], M44)) rfl rfl rfl ?_
          refine rg_ref (S' := (68, [(3, .int pp), (2, .int (f1 f pp)), (0, .ref m0), (1, .int i20_1)], [.ref (q 22)], M44)) rfl hR46 rfl rfl ?_
          refine ml_st (S' := (69, [(3, .int pp), (2, .int (f1 f pp)), (0, .ref m0), (1, .int i20_1)], [.ref m0, .ref (q 22)], M44)) rfl rfl rfl ?_
          refine rg_int (S' := (72, [(3, .int pp), (2, .int (f1 f pp)), (0, .ref m0), (1, .int i20_1)], [.int 0, .ref (q 22)], M44)) rfl hR46 rfl ((hI35 51 (by decide)).trans ((hI_20 51 (by decide)).trans (e14))) rfl ?_
          refine ml_blk 3 (S' := (75, [(3, .int pp), (2, .int (f1 f pp)), (0, .ref m0), (1, .int i20_1)], [.int (-1), .int (0 + i20_1), .ref (q 22)], M44)) rfl ?_
          refine ra_st (k := 22) rfl hR46 rfl (vin_z (by omega) (by omega)) (fun M50 R51 hR52 e53 g54 f55 => ?_)
          show ml _ _ _ (76, [(3, .int pp), (2, .int (f1 f pp)), (0, .ref m0), (1, .int i20_1)], [], M50) _
          rw [z_nat] at e47 g48
          rw [z_nat] at e53 g54
          refine ml_blk 2 (S' := (78, [(3, .int pp), (2, .int (f1 f pp)), (0, .ref m0), (1, .int i20_1)], [.int 1, .int (f1 f pp)], M50)) rfl ?_
          have J_160 : ∀ (s160_0 : Int32), (s160_0 = 0 ∨ GT (f1 f pp)) → ml (mT g) d (mb_238 g).2 (160, [(0, .ref m0), (1, .int i20_1), (2, .int (f1 f pp)), (3, .int pp)], [.int s160_0], M50) (fun v M' => ∃ (x : Int32) (I' : rI) (R' : rR), v = some (.int x) ∧ RS g m0 q z I' R' M' ∧ eqI [3, 8, 20, 47, 48, 50, 51] I I' ∧ eqR [1, 2, 4, 5, 6, 7, 21, 22] R R' ∧ (x = 0 ∨ x = 1) ∧ (x = 0 ∨ ∃ (S' cN' : Nat) (p1 : Int32), SYM S' cN' I' R' ∧ I' 50 = some p1 ∧ p0.toInt ≤ p1.toInt ∧ p1.toInt ≤ n ∧ I' 51 = some 0 ∧ PEN f n S' cp.toInt.toNat R')) := by
            intro s160_0 hj_160
            refine ml_st (S' := (162, [(4, .int s160_0), (0, .ref m0), (1, .int i20_1), (2, .int (f1 f pp)), (3, .int pp)], [], M50)) rfl rfl rfl ?_
            refine ml_st (S' := (164, [(4, .int s160_0), (0, .ref m0), (1, .int i20_1), (2, .int (f1 f pp)), (3, .int pp)], [.int s160_0], M50)) rfl rfl rfl ?_
            refine ml_if (S1 := (174, [(4, .int s160_0), (0, .ref m0), (1, .int i20_1), (2, .int (f1 f pp)), (3, .int pp)], [], M50)) (S2 := (167, [(4, .int s160_0), (0, .ref m0), (1, .int i20_1), (2, .int (f1 f pp)), (3, .int pp)], [], M50)) rfl rfl rfl (fun c_164 => ?_) (fun c_164 => ?_)
            · have c_164 : ¬ s160_0 = 0 := of_decide_eq_true c_164
              have hgt := hj_160.resolve_left c_164
              refine ml_blk 2 (S' := (176, [(4, .int s160_0), (0, .ref m0), (1, .int i20_1), (2, .int (f1 f pp)), (3, .int pp)], [.int 5, .int (f1 f pp)], M50)) rfl ?_
              have J_203 : ((f1 f pp = 5 ∨ f1 f pp = 6) → i20_1.toInt + 1 < cp.toInt) → ml (mT g) d (mb_238 g).2 (203, [(0, .ref m0), (1, .int i20_1), (2, .int (f1 f pp))], [], M50) (fun v M' => ∃ (x : Int32) (I' : rI) (R' : rR), v = some (.int x) ∧ RS g m0 q z I' R' M' ∧ eqI [3, 8, 20, 47, 48, 50, 51] I I' ∧ eqR [1, 2, 4, 5, 6, 7, 21, 22] R R' ∧ (x = 0 ∨ x = 1) ∧ (x = 0 ∨ ∃ (S' cN' : Nat) (p1 : Int32), SYM S' cN' I' R' ∧ I' 50 = some p1 ∧ p0.toInt ≤ p1.toInt ∧ p1.toInt ≤ n ∧ I' 51 = some 0 ∧ PEN f n S' cp.toInt.toNat R')) := by
                intro hj_203
                refine ml_blk 2 (S' := (205, [(0, .ref m0), (1, .int i20_1), (2, .int (f1 f pp))], [.ref m0, .ref m0], M50)) rfl ?_
                refine rg_int (S' := (208, [(0, .ref m0), (1, .int i20_1), (2, .int (f1 f pp))], [.int pp, .ref m0], M50)) rfl hR52 rfl ((hI35 50 (by decide)).trans (hi50)) rfl ?_
                refine ml_blk 2 (S' := (210, [(0, .ref m0), (1, .int i20_1), (2, .int (f1 f pp))], [.int (pp + 1), .ref m0], M50)) rfl ?_
                refine rp_int rfl hR52 rfl (fun M56 I57 hR58 e59 f60 => ?_)
                show ml _ _ _ (213, [(0, .ref m0), (1, .int i20_1), (2, .int (f1 f pp))], [], M56) _
                refine ml_blk 2 (S' := (215, [(0, .ref m0), (1, .int i20_1), (2, .int (f1 f pp))], [.int 1, .int (f1 f pp)], M56)) rfl ?_
                have J_499 : ∀ (M_499 : mi_H) (I_499 : rI) (R_499 : rR), RS g m0 q z I_499 R_499 M_499 → eqI [3, 8, 47, 48, 50] I57 I_499 → eqR [1, 2, 4, 5, 6, 7, 22] R51 R_499 → (∃ (p2 : Int32) (S2 c2 : Nat), I_499 50 = some p2 ∧ pp.toInt + esz (f1 f pp) ≤ p2.toInt ∧ p2.toInt ≤ n ∧ SYM S2 c2 I_499 R_499 ∧ Sx ≤ S2 ∧ 3 * (S2 : Int) ≤ p2.toInt + 9 ∧ (c2 : Int) ≤ p2.toInt + 30 ∧ (f1 f pp = 1 → ∃ sy, R_499 22 i20_1.toNatClampNeg = some sy ∧ 0 ≤ sy.toInt ∧ sy.toInt < S2) ∧ ∀ b, b ≠ i20_1.toNatClampNeg → R_499 22 b = R51 22 b) → ml (mT g) d (mb_238 g).2 (499, [(0, .ref m0), (1, .int i20_1), (2, .int (f1 f pp))], [], M_499) (fun v M' => ∃ (x : Int32) (I' : rI) (R' : rR), v = some (.int x) ∧ RS g m0 q z I' R' M' ∧ eqI [3, 8, 20, 47, 48, 50, 51] I I' ∧ eqR [1, 2, 4, 5, 6, 7, 21, 22] R R' ∧ (x = 0 ∨ x = 1) ∧ (x = 0 ∨ ∃ (S' cN' : Nat) (p1 : Int32), SYM S' cN' I' R' ∧ I' 50 = some p1 ∧ p0.toInt ≤ p1.toInt ∧ p1.toInt ≤ n ∧ I' 51 = some 0 ∧ PEN f n S' cp.toInt.toNat R')) := by
                  intro M_499 I_499 R_499 hR_499 hI_499 hV_499 hj_499
                  obtain ⟨p2, S2, c2, hp2, hp2s, hp2n, hz2, hS2, hs2, hc2, htx, hot⟩ := hj_499
                  have hez : 3 ≤ esz (f1 f pp) := esz_ge
                  have hpen2 : PEN f n S2 (i20_1.toInt.toNat + 1) R_499 := PEN.step (k := i20_1.toInt.toNat) hpen hS2 ((congrFun ((hV_499 21 (by decide)).trans (f55 21 (by decide))) _).trans e47) (fun b hb => (congrFun ((hV_499 21 (by decide)).trans (f55 21 (by decide))) b).trans ((g48 b hb).trans (congrFun ((hV36 21 (by decide))) b))) (fun b hb => (hot b hb).trans ((g54 b hb).trans (congrFun ((f49 22 (by decide)).trans ((hV36 22 (by decide)))) b))) ⟨by omega, by omega, htx⟩ (by omega)
                  refine ml_blk 2 (S' := (501, [(0, .ref m0), (1, .int i20_1), (2, .int (f1 f pp))], [.int 5, .int (f1 f pp)], M_499)) rfl ?_
                  have J_510 : (f1 f pp = 5 ∨ f1 f pp = 6) → ml (mT g) d (mb_238 g).2 (510, [(0, .ref m0), (1, .int i20_1)], [], M_499) (fun v M' => ∃ (x : Int32) (I' : rI) (R' : rR), v = some (.int x) ∧ RS g m0 q z I' R' M' ∧ eqI [3, 8, 20, 47, 48, 50, 51] I I' ∧ eqR [1, 2, 4, 5, 6, 7, 21, 22] R R' ∧ (x = 0 ∨ x = 1) ∧ (x = 0 ∨ ∃ (S' cN' : Nat) (p1 : Int32), SYM S' cN' I' R' ∧ I' 50 = some p1 ∧ p0.toInt ≤ p1.toInt ∧ p1.toInt ≤ n ∧ I' 51 = some 0 ∧ PEN f n S' cp.toInt.toNat R')) := by
                    intro hj_510
                    refine ml_st (S' := (513, [(1, .int (i20_1 + 1)), (0, .ref m0)], [], M_499)) rfl rfl rfl ?_
                    refine ml_st (S' := (514, [(1, .int (i20_1 + 1)), (0, .ref m0)], [.ref m0], M_499)) rfl rfl rfl ?_
                    refine rg_ref (S' := (517, [(1, .int (i20_1 + 1)), (0, .ref m0)], [.ref (q 21)], M_499)) rfl hR_499 rfl rfl ?_
                    refine ml_st (S' := (518, [(1, .int (i20_1 + 1)), (0, .ref m0)], [.ref m0, .ref (q 21)], M_499)) rfl rfl rfl ?_
                    refine rg_int (S' := (521, [(1, .int (i20_1 + 1)), (0, .ref m0)], [.int 0, .ref (q 21)], M_499)) rfl hR_499 rfl ((hI_499 51 (by decide)).trans ((f60 51 (by decide)).trans ((hI35 51 (by decide)).trans ((hI_20 51 (by decide)).trans (e14))))) rfl ?_
                    refine ml_blk 3 (S' := (524, [(1, .int (i20_1 + 1)), (0, .ref m0)], [.int (-1), .int (0 + (i20_1 + 1)), .ref (q 21)], M_499)) rfl ?_
                    refine ra_st (k := 21) rfl hR_499 rfl (vin_z (by rw [hkk]; omega) (by rw [hkk]; omega)) (fun M61 R62 hR63 e64 g65 f66 => ?_)
                    show ml _ _ _ (525, [(0, .ref m0), (1, .int (i20_1 + 1))], [], M61) _
                    refine ml_st (S' := (528, [(1, .int ((i20_1 + 1) + 1)), (0, .ref m0)], [], M61)) rfl rfl rfl ?_
                    refine ml_st (S' := (20, [(0, .ref m0), (1, .int ((i20_1 + 1) + 1))], [], M61)) rfl rfl rfl ?_
                    have hZ67 : SYM S2 c2 I_499 R62 := (hz2.mono (fun _ _ => rfl) (pRx f66 (by decide)))
                    rw [z_nat] at e64 g65
                    have hk2 : (i20_1 + 1 + 1).toInt = i20_1.toInt + 2 := by rw [i_add (by have : (1 : Int32).toInt = 1 := rfl; omega) (by have : (1 : Int32).toInt = 1 := rfl; omega), hkk]; have : (1 : Int32).toInt = 1 := rfl; omega
                    have hkn1 : (i20_1 + 1).toNatClampNeg = i20_1.toInt.toNat + 1 := by show (i20_1 + 1).toInt.toNat = _; omega
                    rw [hkn1] at e64 g65
                    exact ih_20 ((i20_1 + 1) + 1) p2 S2 c2 _ _ _ (by rw [show (i20_1 + 1 + 1).toInt = i20_1.toInt + 2 by rw [i_add (by have : (1 : Int32).toInt = 1 := rfl; omega) (by have : (1 : Int32).toInt = 1 := rfl; omega), hkk]; have : (1 : Int32).toInt = 1 := rfl; omega]; omega) hR63 ((((eqI.rf.tr hI_20 (by decide)).tr hI35 (by decide)).put f60 (by decide)).tr hI_499 (by decide)) ((((((eqR.rf.tr hV_20 (by decide)).tr hV36 (by decide)).put f49 (by decide)).put f55 (by decide)).tr hV_499 (by decide)).put f66 (by decide)) (⟨hp2, by omega, hp2n, by rw [hk2]; omega, by rw [hk2]; have := hj_203 hj_510; omega, hZ67, hs2, hc2, by rw [show (i20_1 + 1 + 1).toInt.toNat = i20_1.toInt.toNat + 1 + 1 by omega]; exact hpen2.wide e64 g65 (f66 22 (by decide)) (by omega)⟩)
                  refine ml_if2 (S1 := (510, [(0, .ref m0), (1, .int i20_1)], [], M_499)) (S2 := (504, [(0, .ref m0), (1, .int i20_1), (2, .int (f1 f pp))], [], M_499)) rfl rfl rfl (fun c_501 => ?_) (fun c_501 => ?_)
                  · have c_501 : (f1 f pp) = 5 := of_decide_eq_true c_501
                    exact J_510  (Or.inl c_501)
                  · have c_501 : ¬ ((f1 f pp) = 5) := of_decide_eq_false c_501
                    refine ml_blk 2 (S' := (507, [(0, .ref m0), (1, .int i20_1), (2, .int (f1 f pp))], [.int 6, .int (f1 f pp)], M_499)) rfl ?_
                    refine ml_if2 (S1 := (525, [(0, .ref m0), (1, .int i20_1)], [], M_499)) (S2 := (510, [(0, .ref m0), (1, .int i20_1)], [], M_499)) rfl rfl rfl (fun c_507 => ?_) (fun c_507 => ?_)
                    · have c_507 : ¬ (f1 f pp) = 6 := of_decide_eq_true c_507
                      refine ml_st (S' := (528, [(1, .int (i20_1 + 1)), (0, .ref m0)], [], M_499)) rfl rfl rfl ?_
                      refine ml_st (S' := (20, [(0, .ref m0), (1, .int (i20_1 + 1))], [], M_499)) rfl rfl rfl ?_
                      exact ih_20 (i20_1 + 1) p2 S2 c2 _ _ _ (by rw [hkk]; omega) hR_499 ((((eqI.rf.tr hI_20 (by decide)).tr hI35 (by decide)).put f60 (by decide)).tr hI_499 (by decide)) (((((eqR.rf.tr hV_20 (by decide)).tr hV36 (by decide)).put f49 (by decide)).put f55 (by decide)).tr hV_499 (by decide)) (⟨hp2, by omega, hp2n, by rw [hkk]; omega, by rw [hkk]; have := i_nle c_25; omega, hz2, hs2, hc2, by rw [show (i20_1 + 1).toInt.toNat = i20_1.toInt.toNat + 1 by omega]; exact hpen2⟩)
                    · have c_507 : ¬ (¬ (f1 f pp) = 6) := of_decide_eq_false c_507
                      exact J_510  (Or.inr (Decidable.not_not.mp c_507))
                refine ml_if2 (S1 := (297, [(0, .ref m0), (1, .int i20_1), (2, .int (f1 f pp))], [], M56)) (S2 := (218, [(0, .ref m0), (1, .int i20_1), (2, .int (f1 f pp))], [], M56)) rfl rfl rfl (fun c_215 => ?_) (fun c_215 => ?_)
                · have c_215 : ¬ (f1 f pp) = 1 := of_decide_eq_true c_215
                  refine ml_blk 2 (S' := (300, [(0, .ref m0), (1, .int i20_1), (2, .int (f1 f pp))], [.int 15, .int (f1 f pp)], M56)) rfl ?_
                  refine ml_if2 (S1 := (348, [(0, .ref m0), (1, .int i20_1), (2, .int (f1 f pp))], [], M56)) (S2 := (303, [(0, .ref m0), (1, .int i20_1), (2, .int (f1 f pp))], [], M56)) rfl rfl rfl (fun c_300 => ?_) (fun c_300 => ?_)
                  · have c_300 : ¬ (f1 f pp) = 15 := of_decide_eq_true c_300
                    refine ml_blk 2 (S' := (350, [(0, .ref m0), (1, .int i20_1), (2, .int (f1 f pp))], [.int 3, .int (f1 f pp)], M56)) rfl ?_
                    have J_358 : (f1 f pp = 3 ∨ f1 f pp = 4) → ml (mT g) d (mb_238 g).2 (358, [(0, .ref m0), (1, .int i20_1), (2, .int (f1 f pp))], [], M56) (fun v M' => ∃ (x : Int32) (I' : rI) (R' : rR), v = some (.int x) ∧ RS g m0 q z I' R' M' ∧ eqI [3, 8, 20, 47, 48, 50, 51] I I' ∧ eqR [1, 2, 4, 5, 6, 7, 21, 22] R R' ∧ (x = 0 ∨ x = 1) ∧ (x = 0 ∨ ∃ (S' cN' : Nat) (p1 : Int32), SYM S' cN' I' R' ∧ I' 50 = some p1 ∧ p0.toInt ≤ p1.toInt ∧ p1.toInt ≤ n ∧ I' 51 = some 0 ∧ PEN f n S' cp.toInt.toNat R')) := by
                      intro hj_358
                      refine ml_blk 2 (S' := (362, [(0, .ref m0), (1, .int i20_1), (2, .int (f1 f pp))], [.long 4, .ref m0], M56)) rfl ?_
                      have hF68 : FK n f I57 R51 := (((hF40.mono (fun _ _ => rfl) (pRx f49 (by decide))).mono (fun _ _ => rfl) (pRx f55 (by decide))).mono (pIx f60 (by decide)) (fun _ _ => rfl))
                      refine ml_call (a := [.ref m0, .long 4]) (rest := []) rfl (hR58.okc rfl rfl rfl) rfl rfl (rm_item hR58 (e59) hF68 (by omega) (by omega) (by decide) (by decide) (by omega)) (fun v69 M70 h71 => ?_)
                      obtain ⟨u77, I72, R73, rfl, hR74, hI75, hV76, z78, w79⟩ := h71
                      show ml _ _ _ (365, [(0, .ref m0), (1, .int i20_1), (2, .int (f1 f pp))], [.int u77], M70) _
                      refine ml_if (S1 := (370, [(0, .ref m0), (1, .int i20_1), (2, .int (f1 f pp))], [], M70)) (S2 := (368, [(0, .ref m0), (1, .int i20_1), (2, .int (f1 f pp))], [], M70)) rfl rfl rfl (fun c_365 => ?_) (fun c_365 => ?_)
                      · have c_365 : ¬ u77 = 0 := of_decide_eq_true c_365
                        have hb := w79.resolve_left c_365
                        have hp5 : (pp + 1 + 4).toInt = pp.toInt + 5 := by rw [i_add (by have : (4 : Int32).toInt = 4 := rfl; omega) (by have : (4 : Int32).toInt = 4 := rfl; omega), hp1]; have : (4 : Int32).toInt = 4 := rfl; omega
                        refine ml_blk 2 (S' := (372, [(0, .ref m0), (1, .int i20_1), (2, .int (f1 f pp))], [.ref m0, .ref m0], M70)) rfl ?_
                        refine rg_int (S' := (375, [(0, .ref m0), (1, .int i20_1), (2, .int (f1 f pp))], [.int (pp + 1), .ref m0], M70)) rfl hR74 rfl ((hI75 50 (by decide)).trans (e59)) rfl ?_
                        refine ml_blk 2 (S' := (377, [(0, .ref m0), (1, .int i20_1), (2, .int (f1 f pp))], [.int ((pp + 1) + 4), .ref m0], M70)) rfl ?_
                        refine rp_int rfl hR74 rfl (fun M80 I81 hR82 e83 f84 => ?_)
                        show ml _ _ _ (380, [(0, .ref m0), (1, .int i20_1), (2, .int (f1 f pp))], [], M80) _
                        refine ml_st (S' := (499, [(0, .ref m0), (1, .int i20_1), (2, .int (f1 f pp))], [], M80)) rfl rfl rfl ?_
                        have hZ85 : SYM Sx Cx I81 R73 := ((((((hz20.mono (cIx hI35 (by decide)) (cRx hV36 (by decide))).mono (fun _ _ => rfl) (pRx f49 (by decide))).mono (fun _ _ => rfl) (pRx f55 (by decide))).mono (pIx f60 (by decide)) (fun _ _ => rfl)).mono (cIx hI75 (by decide)) (cRx hV76 (by decide))).mono (pIx f84 (by decide)) (fun _ _ => rfl))
                        exact J_499  _ _ _ hR82 ((eqI.rf.tr hI75 (by decide)).put f84 (by decide)) (eqR.rf.tr hV76 (by decide)) (⟨_, Sx, Cx, e83, by rw [hp5, esz5 hj_358]; omega, by rw [hp5]; omega, hZ85, Nat.le_refl _, by rw [hp5]; omega, by rw [hp5]; omega, fun e => absurd e c_215, fun b _ => congrFun (hV76 22 (by decide)) b⟩)
                      · have c_365 : ¬ (¬ u77 = 0) := of_decide_eq_false c_365
                        refine ml_st (S' := (369, [(0, .ref m0), (1, .int i20_1), (2, .int (f1 f pp))], [.int 0], M70)) rfl rfl rfl ?_
                        exact ml_ret rfl (r_z (Or.inl rfl)) (⟨_, _, _, rfl, hR74, (((((eqI.rf.put f15 (by decide)).tr hI_20 (by decide)).tr hI35 (by decide)).put f60 (by decide)).tr hI75 (by decide)), ((((((eqR.rf.put f21 (by decide)).tr hV_20 (by decide)).tr hV36 (by decide)).put f49 (by decide)).put f55 (by decide)).tr hV76 (by decide)), Or.inl rfl, Or.inl rfl⟩)
                    refine ml_if2 (S1 := (358, [(0, .ref m0), (1, .int i20_1), (2, .int (f1 f pp))], [], M56)) (S2 := (353, [(0, .ref m0), (1, .int i20_1), (2, .int (f1 f pp))], [], M56)) rfl rfl rfl (fun c_350 => ?_) (fun c_350 => ?_)
                    · have c_350 : (f1 f pp) = 3 := of_decide_eq_true c_350
                      exact J_358  (Or.inl c_350)
                    · have c_350 : ¬ ((f1 f pp) = 3) := of_decide_eq_false c_350
                      refine ml_blk 2 (S' := (355, [(0, .ref m0), (1, .int i20_1), (2, .int (f1 f pp))], [.int 4, .int (f1 f pp)], M56)) rfl ?_
                      refine ml_if2 (S1 := (383, [(0, .ref m0), (1, .int i20_1), (2, .int (f1 f pp))], [], M56)) (S2 := (358, [(0, .ref m0), (1, .int i20_1), (2, .int (f1 f pp))], [], M56)) rfl rfl rfl (fun c_355 => ?_) (fun c_355 => ?_)
                      · have c_355 : ¬ (f1 f pp) = 4 := of_decide_eq_true c_355
                        refine ml_blk 2 (S' := (385, [(0, .ref m0), (1, .int i20_1), (2, .int (f1 f pp))], [.int 5, .int (f1 f pp)], M56)) rfl ?_
                        have J_394 : (f1 f pp = 5 ∨ f1 f pp = 6) → ml (mT g) d (mb_238 g).2 (394, [(0, .ref m0), (1, .int i20_1), (2, .int (f1 f pp))], [], M56) (fun v M' => ∃ (x : Int32) (I' : rI) (R' : rR), v = some (.int x) ∧ RS g m0 q z I' R' M' ∧ eqI [3, 8, 20, 47, 48, 50, 51] I I' ∧ eqR [1, 2, 4, 5, 6, 7, 21, 22] R R' ∧ (x = 0 ∨ x = 1) ∧ (x = 0 ∨ ∃ (S' cN' : Nat) (p1 : Int32), SYM S' cN' I' R' ∧ I' 50 = some p1 ∧ p0.toInt ≤ p1.toInt ∧ p1.toInt ≤ n ∧ I' 51 = some 0 ∧ PEN f n S' cp.toInt.toNat R')) := by
                          intro hj_394
                          refine ml_st (S' := (395, [(0, .ref m0), (1, .int i20_1), (2, .int (f1 f pp))], [.int 0], M56)) rfl rfl rfl ?_
                          refine ml_st (S' := (397, [(0, .ref m0), (1, .int i20_1), (2, .int (f1 f pp)), (5, .int 0)], [], M56)) rfl rfl rfl ?_
                          have L_397 : ∀ (n_397 : Nat) (i397_5 : Int32) (pq : Int32) (M_397 : mi_H) (I_397 : rI) (R_397 : rR), (2147483648 - i397_5.toInt).toNat ≤ n_397 → RS g m0 q z I_397 R_397 M_397 → eqI [47, 48, 50] I57 I_397 → eqR [] R51 R_397 → (I_397 50 = some pq ∧ 0 ≤ i397_5.toInt ∧ i397_5.toInt ≤ 2 ∧ pq.toInt = pp.toInt + 1 + 4 * i397_5.toInt ∧ pq.toInt ≤ n) → ml (mT g) d (mb_238 g).2 (397, [(0, .ref m0), (1, .int i20_1), (2, .int (f1 f pp)), (5, .int i397_5)], [], M_397) (fun v M' => ∃ (x : Int32) (I' : rI) (R' : rR), v = some (.int x) ∧ RS g m0 q z I' R' M' ∧ eqI [3, 8, 20, 47, 48, 50, 51] I I' ∧ eqR [1, 2, 4, 5, 6, 7, 21, 22] R R' ∧ (x = 0 ∨ x = 1) ∧ (x = 0 ∨ ∃ (S' cN' : Nat) (p1 : Int32), SYM S' cN' I' R' ∧ I' 50 = some p1 ∧ p0.toInt ≤ p1.toInt ∧ p1.toInt ≤ n ∧ I' 51 = some 0 ∧ PEN f n S' cp.toInt.toNat R')) := by
                            intro n_397
                            induction n_397 with
                            | zero => intro i397_5 pq M_397 I_397 R_397 hn; exact (loop_zero hn).elim
                            | succ n_397 ih_397 =>
                              intro i397_5 pq M_397 I_397 R_397 hn_397 hR_397 hI_397 hV_397 hi_397
                              obtain ⟨hq50, hq0, hq1, hqe, hqn⟩ := hi_397
                              refine ml_blk 2 (S' := (400, [(0, .ref m0), (1, .int i20_1), (2, .int (f1 f pp)), (5, .int i397_5)], [.int 2, .int i397_5], M_397)) rfl ?_
                              refine ml_if2 (S1 := (431, [(0, .ref m0), (1, .int i20_1), (2, .int (f1 f pp)), (5, .int i397_5)], [], M_397)) (S2 := (403, [(0, .ref m0), (1, .int i20_1), (2, .int (f1 f pp)), (5, .int i397_5)], [], M_397)) rfl rfl rfl (fun c_400 => ?_) (fun c_400 => ?_)
                              · have c_400 : 2 ≤ i397_5 := of_decide_eq_true c_400
                                have hq6 : pq.toInt = pp.toInt + 9 := by have q := i_le c_400; have : (2 : Int32).toInt = 2 := rfl; omega
                                refine ml_st (S' := (499, [(0, .ref m0), (1, .int i20_1), (2, .int (f1 f pp))], [], M_397)) rfl rfl rfl ?_
                                have hZ86 : SYM Sx Cx I_397 R_397 := (((((hz20.mono (cIx hI35 (by decide)) (cRx hV36 (by decide))).mono (fun _ _ => rfl) (pRx f49 (by decide))).mono (fun _ _ => rfl) (pRx f55 (by decide))).mono (pIx f60 (by decide)) (fun _ _ => rfl)).mono (cIx hI_397 (by decide)) (cRx hV_397 (by decide)))
                                exact J_499  _ _ _ hR_397 (eqI.rf.tr hI_397 (by decide)) (eqR.rf.tr hV_397 (by decide)) (⟨_, Sx, Cx, hq50, by rw [hq6, esz9 hj_394]; omega, by rw [hq6]; omega, hZ86, Nat.le_refl _, by rw [hq6]; omega, by rw [hq6]; omega, fun e => absurd e c_215, fun b _ => congrFun (hV_397 22 (by decide)) b⟩)
                              · have c_400 : ¬ (2 ≤ i397_5) := of_decide_eq_false c_400
                                refine ml_blk 2 (S' := (407, [(0, .ref m0), (1, .int i20_1), (2, .int (f1 f pp)), (5, .int i397_5)], [.long 4, .ref m0], M_397)) rfl ?_
                                have hF87 : FK n f I_397 R_397 := ((((hF40.mono (fun _ _ => rfl) (pRx f49 (by decide))).mono (fun _ _ => rfl) (pRx f55 (by decide))).mono (pIx f60 (by decide)) (fun _ _ => rfl)).mono (cIx hI_397 (by decide)) (cRx hV_397 (by decide)))
                                refine ml_call (a := [.ref m0, .long 4]) (rest := []) rfl (hR_397.okc rfl rfl rfl) rfl rfl (rm_item hR_397 (hq50) hF87 (by omega) (by omega) (by decide) (by decide) (by omega)) (fun v88 M89 h90 => ?_)
                                obtain ⟨u96, I91, R92, rfl, hR93, hI94, hV95, z97, w98⟩ := h90
                                show ml _ _ _ (410, [(0, .ref m0), (1, .int i20_1), (2, .int (f1 f pp)), (5, .int i397_5)], [.int u96], M89) _
                                refine ml_if (S1 := (415, [(0, .ref m0), (1, .int i20_1), (2, .int (f1 f pp)), (5, .int i397_5)], [], M89)) (S2 := (413, [(0, .ref m0), (1, .int i20_1), (2, .int (f1 f pp)), (5, .int i397_5)], [], M89)) rfl rfl rfl (fun c_410 => ?_) (fun c_410 => ?_)
                                · have c_410 : ¬ u96 = 0 := of_decide_eq_true c_410
                                  have hb := w98.resolve_left c_410
                                  have hq4 : (pq + 4).toInt = pq.toInt + 4 := i_add (by have : (4 : Int32).toInt = 4 := rfl; omega) (by have : (4 : Int32).toInt = 4 := rfl; omega)
                                  have hq5 := inc_lt (Int32.not_le.mp c_400)
                                  refine ml_blk 2 (S' := (417, [(0, .ref m0), (1, .int i20_1), (2, .int (f1 f pp)), (5, .int i397_5)], [.ref m0, .ref m0], M89)) rfl ?_
                                  refine rg_int (S' := (420, [(0, .ref m0), (1, .int i20_1), (2, .int (f1 f pp)), (5, .int i397_5)], [.int pq, .ref m0], M89)) rfl hR93 rfl ((hI94 50 (by decide)).trans (hq50)) rfl ?_
                                  refine ml_blk 2 (S' := (422, [(0, .ref m0), (1, .int i20_1), (2, .int (f1 f pp)), (5, .int i397_5)], [.int (pq + 4), .ref m0], M89)) rfl ?_
                                  refine rp_int rfl hR93 rfl (fun M99 I100 hR101 e102 f103 => ?_)
                                  show ml _ _ _ (425, [(0, .ref m0), (1, .int i20_1), (2, .int (f1 f pp)), (5, .int i397_5)], [], M99) _
                                  refine ml_st (S' := (428, [(5, .int (i397_5 + 1)), (0, .ref m0), (1, .int i20_1), (2, .int (f1 f pp))], [], M99)) rfl rfl rfl ?_
                                  refine ml_st (S' := (397, [(0, .ref m0), (1, .int i20_1), (2, .int (f1 f pp)), (5, .int (i397_5 + 1))], [], M99)) rfl rfl rfl ?_
                                  exact ih_397 (i397_5 + 1) (pq + 4) _ _ _ (loop_inc (Int32.not_le.mp c_400) hn_397) hR101 (((eqI.rf.tr hI_397 (by decide)).tr hI94 (by decide)).put f103 (by decide)) ((eqR.rf.tr hV_397 (by decide)).tr hV95 (by decide)) (⟨e102, by rw [hq5]; omega, by rw [hq5]; have := i_nle c_400; have : (2 : Int32).toInt = 2 := rfl; omega, by rw [hq5]; omega, by omega⟩)
                                · have c_410 : ¬ (¬ u96 = 0) := of_decide_eq_false c_410
                                  refine ml_st (S' := (414, [(0, .ref m0), (1, .int i20_1), (2, .int (f1 f pp)), (5, .int i397_5)], [.int 0], M89)) rfl rfl rfl ?_
                                  exact ml_ret rfl (r_z (Or.inl rfl)) (⟨_, _, _, rfl, hR93, ((((((eqI.rf.put f15 (by decide)).tr hI_20 (by decide)).tr hI35 (by decide)).put f60 (by decide)).tr hI_397 (by decide)).tr hI94 (by decide)), (((((((eqR.rf.put f21 (by decide)).tr hV_20 (by decide)).tr hV36 (by decide)).put f49 (by decide)).put f55 (by decide)).tr hV_397 (by decide)).tr hV95 (by decide)), Or.inl rfl, Or.inl rfl⟩)
                          exact L_397 _ 0 (pp + 1) _ _ _ (Nat.le_refl _) hR58 eqI.rf eqR.rf (⟨e59, by decide, by decide, by show _ = pp.toInt + 1 + 4 * 0; omega, by omega⟩)
                        refine ml_if2 (S1 := (394, [(0, .ref m0), (1, .int i20_1), (2, .int (f1 f pp))], [], M56)) (S2 := (388, [(0, .ref m0), (1, .int i20_1), (2, .int (f1 f pp))], [], M56)) rfl rfl rfl (fun c_385 => ?_) (fun c_385 => ?_)
                        · have c_385 : (f1 f pp) = 5 := of_decide_eq_true c_385
                          exact J_394  (Or.inl c_385)
                        · have c_385 : ¬ ((f1 f pp) = 5) := of_decide_eq_false c_385
                          refine ml_blk 2 (S' := (391, [(0, .ref m0), (1, .int i20_1), (2, .int (f1 f pp))], [.int 6, .int (f1 f pp)], M56)) rfl ?_
                          refine ml_if2 (S1 := (434, [(0, .ref m0), (1, .int i20_1), (2, .int (f1 f pp))], [], M56)) (S2 := (394, [(0, .ref m0), (1, .int i20_1), (2, .int (f1 f pp))], [], M56)) rfl rfl rfl (fun c_391 => ?_) (fun c_391 => ?_)
                          · have c_391 : ¬ (f1 f pp) = 6 := of_decide_eq_true c_391
                            refine ml_st (S' := (435, [(0, .ref m0), (1, .int i20_1), (2, .int (f1 f pp))], [.int 0], M56)) rfl rfl rfl ?_
                            refine ml_st (S' := (437, [(0, .ref m0), (1, .int i20_1), (2, .int (f1 f pp)), (5, .int 0)], [], M56)) rfl rfl rfl ?_
                            have L_437 : ∀ (n_437 : Nat) (i437_5 : Int32) (pq : Int32) (M_437 : mi_H) (I_437 : rI) (R_437 : rR), (2147483648 - i437_5.toInt).toNat ≤ n_437 → RS g m0 q z I_437 R_437 M_437 → eqI [47, 48, 50] I57 I_437 → eqR [] R51 R_437 → (I_437 50 = some pq ∧ 0 ≤ i437_5.toInt ∧ i437_5.toInt ≤ 2 ∧ pq.toInt = pp.toInt + 1 + 2 * i437_5.toInt ∧ pq.toInt ≤ n) → ml (mT g) d (mb_238 g).2 (437, [(0, .ref m0), (1, .int i20_1), (2, .int (f1 f pp)), (5, .int i437_5)], [], M_437) (fun v M' => ∃ (x : Int32) (I' : rI) (R' : rR), v = some (.int x) ∧ RS g m0 q z I' R' M' ∧ eqI [3, 8, 20, 47, 48, 50, 51] I I' ∧ eqR [1, 2, 4, 5, 6, 7, 21, 22] R R' ∧ (x = 0 ∨ x = 1) ∧ (x = 0 ∨ ∃ (S' cN' : Nat) (p1 : Int32), SYM S' cN' I' R' ∧ I' 50 = some p1 ∧ p0.toInt ≤ p1.toInt ∧ p1.toInt ≤ n ∧ I' 51 = some 0 ∧ PEN f n S' cp.toInt.toNat R')) := by
                              intro n_437
                              induction n_437 with
                              | zero => intro i437_5 pq M_437 I_437 R_437 hn; exact (loop_zero hn).elim
                              | succ n_437 ih_437 =>
                                intro i437_5 pq M_437 I_437 R_437 hn_437 hR_437 hI_437 hV_437 hi_437
                                obtain ⟨hq50, hq0, hq1, hqe, hqn⟩ := hi_437
                                have hno : ¬ (f1 f pp = 5 ∨ f1 f pp = 6) := fun h => h.elim c_385 c_391
                                refine ml_blk 3 (S' := (442, [(0, .ref m0), (1, .int i20_1), (2, .int (f1 f pp)), (5, .int i437_5)], [.int 9, .int (f1 f pp), .int i437_5], M_437)) rfl ?_
                                have J_468 : ∀ (s468_0 : Int32), (s468_0 = 2 ∨ s468_0 = 1 ∧ esz (f1 f pp) ≤ 3) → ml (mT g) d (mb_238 g).2 (468, [(0, .ref m0), (1, .int i20_1), (2, .int (f1 f pp)), (5, .int i437_5)], [.int s468_0, .int i437_5], M_437) (fun v M' => ∃ (x : Int32) (I' : rI) (R' : rR), v = some (.int x) ∧ RS g m0 q z I' R' M' ∧ eqI [3, 8, 20, 47, 48, 50, 51] I I' ∧ eqR [1, 2, 4, 5, 6, 7, 21, 22] R R' ∧ (x = 0 ∨ x = 1) ∧ (x = 0 ∨ ∃ (S' cN' : Nat) (p1 : Int32), SYM S' cN' I' R' ∧ I' 50 = some p1 ∧ p0.toInt ≤ p1.toInt ∧ p1.toInt ≤ n ∧ I' 51 = some 0 ∧ PEN f n S' cp.toInt.toNat R')) := by
                                  intro s468_0 hj_468
                                  refine ml_if2 (S1 := (499, [(0, .ref m0), (1, .int i20_1), (2, .int (f1 f pp))], [], M_437)) (S2 := (471, [(0, .ref m0), (1, .int i20_1), (2, .int (f1 f pp)), (5, .int i437_5)], [], M_437)) rfl rfl rfl (fun c_468 => ?_) (fun c_468 => ?_)
                                  · have c_468 : s468_0 ≤ i437_5 := of_decide_eq_true c_468
                                    have hZ104 : SYM Sx Cx I_437 R_437 := (((((hz20.mono (cIx hI35 (by decide)) (cRx hV36 (by decide))).mono (fun _ _ => rfl) (pRx f49 (by decide))).mono (fun _ _ => rfl) (pRx f55 (by decide))).mono (pIx f60 (by decide)) (fun _ _ => rfl)).mono (cIx hI_437 (by decide)) (cRx hV_437 (by decide)))
                                    exact J_499  _ _ _ hR_437 (eqI.rf.tr hI_437 (by decide)) (eqR.rf.tr hV_437 (by decide)) (⟨_, Sx, Cx, hq50, by have q := i_le c_468; rcases hj_468 with e | ⟨e, e3⟩; (rw [e] at q; have : (2 : Int32).toInt = 2 := rfl; have := esz_le5 hno; omega); (rw [e] at q; have : (1 : Int32).toInt = 1 := rfl; omega), by omega, hZ104, Nat.le_refl _, by have q := i_le c_468; rcases hj_468 with e | ⟨e, e3⟩; (rw [e] at q; have : (2 : Int32).toInt = 2 := rfl; omega); (rw [e] at q; have : (1 : Int32).toInt = 1 := rfl; omega), by have q := i_le c_468; rcases hj_468 with e | ⟨e, e3⟩; (rw [e] at q; have : (2 : Int32).toInt = 2 := rfl; omega); (rw [e] at q; have : (1 : Int32).toInt = 1 := rfl; omega), fun e => absurd e c_215, fun b _ => congrFun (hV_437 22 (by decide)) b⟩)
                                  · have c_468 : ¬ (s468_0 ≤ i437_5) := of_decide_eq_false c_468
                                    refine ml_blk 2 (S' := (475, [(0, .ref m0), (1, .int i20_1), (2, .int (f1 f pp)), (5, .int i437_5)], [.long 2, .ref m0], M_437)) rfl ?_
                                    have hF105 : FK n f I_437 R_437 := ((((hF40.mono (fun _ _ => rfl) (pRx f49 (by decide))).mono (fun _ _ => rfl) (pRx f55 (by decide))).mono (pIx f60 (by decide)) (fun _ _ => rfl)).mono (cIx hI_437 (by decide)) (cRx hV_437 (by decide)))
                                    refine ml_call (a := [.ref m0, .long 2]) (rest := []) rfl (hR_437.okc rfl rfl rfl) rfl rfl (rm_item hR_437 (hq50) hF105 (by omega) (by omega) (by decide) (by decide) (by omega)) (fun v106 M107 h108 => ?_)
                                    obtain ⟨u114, I109, R110, rfl, hR111, hI112, hV113, z115, w116⟩ := h108
                                    show ml _ _ _ (478, [(0, .ref m0), (1, .int i20_1), (2, .int (f1 f pp)), (5, .int i437_5)], [.int u114], M107) _
                                    refine ml_if (S1 := (483, [(0, .ref m0), (1, .int i20_1), (2, .int (f1 f pp)), (5, .int i437_5)], [], M107)) (S2 := (481, [(0, .ref m0), (1, .int i20_1), (2, .int (f1 f pp)), (5, .int i437_5)], [], M107)) rfl rfl rfl (fun c_478 => ?_) (fun c_478 => ?_)
                                    · have c_478 : ¬ u114 = 0 := of_decide_eq_true c_478
                                      have hb := w116.resolve_left c_478
                                      have hq4 : (pq + 2).toInt = pq.toInt + 2 := i_add (by have : (2 : Int32).toInt = 2 := rfl; omega) (by have : (2 : Int32).toInt = 2 := rfl; omega)
                                      have hq5 := inc_lt (Int32.not_le.mp c_468)
                                      have hq2 : i437_5.toInt < 2 := by have q := i_nle c_468; rcases hj_468 with e | ⟨e, -⟩; (rw [e] at q; have : (2 : Int32).toInt = 2 := rfl; omega); (rw [e] at q; have : (1 : Int32).toInt = 1 := rfl; omega)
                                      refine ml_blk 2 (S' := (485, [(0, .ref m0), (1, .int i20_1), (2, .int (f1 f pp)), (5, .int i437_5)], [.ref m0, .ref m0], M107)) rfl ?_
                                      refine rg_int (S' := (488, [(0, .ref m0), (1, .int i20_1), (2, .int (f1 f pp)), (5, .int i437_5)], [.int pq, .ref m0], M107)) rfl hR111 rfl ((hI112 50 (by decide)).trans (hq50)) rfl ?_
                                      refine ml_blk 2 (S' := (490, [(0, .ref m0), (1, .int i20_1), (2, .int (f1 f pp)), (5, .int i437_5)], [.int (pq + 2), .ref m0], M107)) rfl ?_
                                      refine rp_int rfl hR111 rfl (fun M117 I118 hR119 e120 f121 => ?_)
                                      show ml _ _ _ (493, [(0, .ref m0), (1, .int i20_1), (2, .int (f1 f pp)), (5, .int i437_5)], [], M117) _
                                      refine ml_st (S' := (496, [(5, .int (i437_5 + 1)), (0, .ref m0), (1, .int i20_1), (2, .int (f1 f pp))], [], M117)) rfl rfl rfl ?_
                                      refine ml_st (S' := (437, [(0, .ref m0), (1, .int i20_1), (2, .int (f1 f pp)), (5, .int (i437_5 + 1))], [], M117)) rfl rfl rfl ?_
                                      exact ih_437 (i437_5 + 1) (pq + 2) _ _ _ (loop_inc (Int32.not_le.mp c_468) hn_437) hR119 (((eqI.rf.tr hI_437 (by decide)).tr hI112 (by decide)).put f121 (by decide)) ((eqR.rf.tr hV_437 (by decide)).tr hV113 (by decide)) (⟨e120, by rw [hq5]; omega, by rw [hq5]; omega, by rw [hq5]; omega, by omega⟩)
                                    · have c_478 : ¬ (¬ u114 = 0) := of_decide_eq_false c_478
                                      refine ml_st (S' := (482, [(0, .ref m0), (1, .int i20_1), (2, .int (f1 f pp)), (5, .int i437_5)], [.int 0], M107)) rfl rfl rfl ?_
                                      exact ml_ret rfl (r_z (Or.inl rfl)) (⟨_, _, _, rfl, hR111, ((((((eqI.rf.put f15 (by decide)).tr hI_20 (by decide)).tr hI35 (by decide)).put f60 (by decide)).tr hI_437 (by decide)).tr hI112 (by decide)), (((((((eqR.rf.put f21 (by decide)).tr hV_20 (by decide)).tr hV36 (by decide)).put f49 (by decide)).put f55 (by decide)).tr hV_437 (by decide)).tr hV113 (by decide)), Or.inl rfl, Or.inl rfl⟩)
                                have J_463 : ml (mT g) d (mb_238 g).2 (463, [(0, .ref m0), (1, .int i20_1), (2, .int (f1 f pp)), (5, .int i437_5)], [.int i437_5], M_437) (fun v M' => ∃ (x : Int32) (I' : rI) (R' : rR), v = some (.int x) ∧ RS g m0 q z I' R' M' ∧ eqI [3, 8, 20, 47, 48, 50, 51] I I' ∧ eqR [1, 2, 4, 5, 6, 7, 21, 22] R R' ∧ (x = 0 ∨ x = 1) ∧ (x = 0 ∨ ∃ (S' cN' : Nat) (p1 : Int32), SYM S' cN' I' R' ∧ I' 50 = some p1 ∧ p0.toInt ≤ p1.toInt ∧ p1.toInt ≤ n ∧ I' 51 = some 0 ∧ PEN f n S' cp.toInt.toNat R')) := by
                                  refine ml_st (S' := (464, [(0, .ref m0), (1, .int i20_1), (2, .int (f1 f pp)), (5, .int i437_5)], [.int 2, .int i437_5], M_437)) rfl rfl rfl ?_
                                  refine ml_st (S' := (468, [(0, .ref m0), (1, .int i20_1), (2, .int (f1 f pp)), (5, .int i437_5)], [.int 2, .int i437_5], M_437)) rfl rfl rfl ?_
                                  exact J_468 2 (Or.inl rfl)
                                have J_451 : (f1 f pp < 9 ∨ 12 < f1 f pp) → ml (mT g) d (mb_238 g).2 (451, [(0, .ref m0), (1, .int i20_1), (2, .int (f1 f pp)), (5, .int i437_5)], [.int i437_5], M_437) (fun v M' => ∃ (x : Int32) (I' : rI) (R' : rR), v = some (.int x) ∧ RS g m0 q z I' R' M' ∧ eqI [3, 8, 20, 47, 48, 50, 51] I I' ∧ eqR [1, 2, 4, 5, 6, 7, 21, 22] R R' ∧ (x = 0 ∨ x = 1) ∧ (x = 0 ∨ ∃ (S' cN' : Nat) (p1 : Int32), SYM S' cN' I' R' ∧ I' 50 = some p1 ∧ p0.toInt ≤ p1.toInt ∧ p1.toInt ≤ n ∧ I' 51 = some 0 ∧ PEN f n S' cp.toInt.toNat R')) := by
                                  intro hj_451
                                  refine ml_blk 2 (S' := (454, [(0, .ref m0), (1, .int i20_1), (2, .int (f1 f pp)), (5, .int i437_5)], [.int 17, .int (f1 f pp), .int i437_5], M_437)) rfl ?_
                                  refine ml_if2 (S1 := (463, [(0, .ref m0), (1, .int i20_1), (2, .int (f1 f pp)), (5, .int i437_5)], [.int i437_5], M_437)) (S2 := (457, [(0, .ref m0), (1, .int i20_1), (2, .int (f1 f pp)), (5, .int i437_5)], [.int i437_5], M_437)) rfl rfl rfl (fun c_454 => ?_) (fun c_454 => ?_)
                                  · have c_454 : (f1 f pp) = 17 := of_decide_eq_true c_454
                                    exact J_463 
                                  · have c_454 : ¬ ((f1 f pp) = 17) := of_decide_eq_false c_454
                                    refine ml_blk 2 (S' := (460, [(0, .ref m0), (1, .int i20_1), (2, .int (f1 f pp)), (5, .int i437_5)], [.int 18, .int (f1 f pp), .int i437_5], M_437)) rfl ?_
                                    refine ml_if2 (S1 := (467, [(0, .ref m0), (1, .int i20_1), (2, .int (f1 f pp)), (5, .int i437_5)], [.int i437_5], M_437)) (S2 := (463, [(0, .ref m0), (1, .int i20_1), (2, .int (f1 f pp)), (5, .int i437_5)], [.int i437_5], M_437)) rfl rfl rfl (fun c_460 => ?_) (fun c_460 => ?_)
                                    · have c_460 : ¬ (f1 f pp) = 18 := of_decide_eq_true c_460
                                      refine ml_st (S' := (468, [(0, .ref m0), (1, .int i20_1), (2, .int (f1 f pp)), (5, .int i437_5)], [.int 1, .int i437_5], M_437)) rfl rfl rfl ?_
                                      exact J_468 1 (Or.inr ⟨rfl, esz3 hgt hj_451 c_300 c_454 c_460 ⟨c_350, c_355⟩ ⟨c_385, c_391⟩⟩)
                                    · have c_460 : ¬ (¬ (f1 f pp) = 18) := of_decide_eq_false c_460
                                      exact J_463 
                                refine ml_if2 (S1 := (451, [(0, .ref m0), (1, .int i20_1), (2, .int (f1 f pp)), (5, .int i437_5)], [.int i437_5], M_437)) (S2 := (445, [(0, .ref m0), (1, .int i20_1), (2, .int (f1 f pp)), (5, .int i437_5)], [.int i437_5], M_437)) rfl rfl rfl (fun c_442 => ?_) (fun c_442 => ?_)
                                · have c_442 : (f1 f pp) < 9 := of_decide_eq_true c_442
                                  exact J_451  (Or.inl c_442)
                                · have c_442 : ¬ ((f1 f pp) < 9) := of_decide_eq_false c_442
                                  refine ml_blk 2 (S' := (448, [(0, .ref m0), (1, .int i20_1), (2, .int (f1 f pp)), (5, .int i437_5)], [.int 12, .int (f1 f pp), .int i437_5], M_437)) rfl ?_
                                  refine ml_if2 (S1 := (463, [(0, .ref m0), (1, .int i20_1), (2, .int (f1 f pp)), (5, .int i437_5)], [.int i437_5], M_437)) (S2 := (451, [(0, .ref m0), (1, .int i20_1), (2, .int (f1 f pp)), (5, .int i437_5)], [.int i437_5], M_437)) rfl rfl rfl (fun c_448 => ?_) (fun c_448 => ?_)
                                  · have c_448 : (f1 f pp) ≤ 12 := of_decide_eq_true c_448
                                    exact J_463 
                                  · have c_448 : ¬ ((f1 f pp) ≤ 12) := of_decide_eq_false c_448
                                    exact J_451  (Or.inr (Int32.not_le.mp c_448))
                            exact L_437 _ 0 (pp + 1) _ _ _ (Nat.le_refl _) hR58 eqI.rf eqR.rf (⟨e59, by decide, by decide, by show _ = pp.toInt + 1 + 2 * 0; omega, by omega⟩)
                          · have c_391 : ¬ (¬ (f1 f pp) = 6) := of_decide_eq_false c_391
                            exact J_394  (Or.inr (Decidable.not_not.mp c_391))
                      · have c_355 : ¬ (¬ (f1 f pp) = 4) := of_decide_eq_false c_355
                        exact J_358  (Or.inr (Decidable.not_not.mp c_355))
                  · have c_300 : ¬ (¬ (f1 f pp) = 15) := of_decide_eq_false c_300
                    refine ml_blk 2 (S' := (305, [(0, .ref m0), (1, .int i20_1), (2, .int (f1 f pp))], [.long 1, .ref m0], M56)) rfl ?_
                    have hF122 : FK n f I57 R51 := (((hF40.mono (fun _ _ => rfl) (pRx f49 (by decide))).mono (fun _ _ => rfl) (pRx f55 (by decide))).mono (pIx f60 (by decide)) (fun _ _ => rfl))
                    refine ml_call (a := [.ref m0, .long 1]) (rest := []) rfl (hR58.okc rfl rfl rfl) rfl rfl (rm_item hR58 (e59) hF122 (by omega) (by omega) (by decide) (by decide) (by omega)) (fun v123 M124 h125 => ?_)
                    obtain ⟨u131, I126, R127, rfl, hR128, hI129, hV130, z132, w133⟩ := h125
                    show ml _ _ _ (308, [(0, .ref m0), (1, .int i20_1), (2, .int (f1 f pp))], [.int u131], M124) _
                    refine ml_if (S1 := (313, [(0, .ref m0), (1, .int i20_1), (2, .int (f1 f pp))], [], M124)) (S2 := (311, [(0, .ref m0), (1, .int i20_1), (2, .int (f1 f pp))], [], M124)) rfl rfl rfl (fun c_308 => ?_) (fun c_308 => ?_)
                    · have c_308 : ¬ u131 = 0 := of_decide_eq_true c_308
                      have hb := w133.resolve_left c_308
                      have hp3 : (pp + 1 + 1).toInt = pp.toInt + 2 := by rw [i_add (by have : (1 : Int32).toInt = 1 := rfl; omega) (by have : (1 : Int32).toInt = 1 := rfl; omega), hp1]; have : (1 : Int32).toInt = 1 := rfl; omega
                      refine ml_blk 2 (S' := (315, [(0, .ref m0), (1, .int i20_1), (2, .int (f1 f pp))], [.ref m0, .ref m0], M124)) rfl ?_
                      refine rg_int (S' := (318, [(0, .ref m0), (1, .int i20_1), (2, .int (f1 f pp))], [.int (pp + 1), .ref m0], M124)) rfl hR128 rfl ((hI129 50 (by decide)).trans (e59)) rfl ?_
                      refine ml_blk 2 (S' := (320, [(0, .ref m0), (1, .int i20_1), (2, .int (f1 f pp))], [.int ((pp + 1) + 1), .ref m0], M124)) rfl ?_
                      refine rp_int rfl hR128 rfl (fun M134 I135 hR136 e137 f138 => ?_)
                      show ml _ _ _ (323, [(0, .ref m0), (1, .int i20_1), (2, .int (f1 f pp))], [], M134) _
                      refine ml_blk 2 (S' := (327, [(0, .ref m0), (1, .int i20_1), (2, .int (f1 f pp))], [.long 2, .ref m0], M134)) rfl ?_
                      have hF139 : FK n f I135 R127 := ((hF122.mono (cIx hI129 (by decide)) (cRx hV130 (by decide))).mono (pIx f138 (by decide)) (fun _ _ => rfl))
                      refine ml_call (a := [.ref m0, .long 2]) (rest := []) rfl (hR136.okc rfl rfl rfl) rfl rfl (rm_item hR136 (e137) hF139 (by omega) (by omega) (by decide) (by decide) (by omega)) (fun v140 M141 h142 => ?_)
                      obtain ⟨u148, I143, R144, rfl, hR145, hI146, hV147, z149, w150⟩ := h142
                      show ml _ _ _ (330, [(0, .ref m0), (1, .int i20_1), (2, .int (f1 f pp))], [.int u148], M141) _
                      refine ml_if (S1 := (335, [(0, .ref m0), (1, .int i20_1), (2, .int (f1 f pp))], [], M141)) (S2 := (333, [(0, .ref m0), (1, .int i20_1), (2, .int (f1 f pp))], [], M141)) rfl rfl rfl (fun c_330 => ?_) (fun c_330 => ?_)
                      · have c_330 : ¬ u148 = 0 := of_decide_eq_true c_330
                        have hc := w150.resolve_left c_330
                        have hp5 : (pp + 1 + 1 + 2).toInt = pp.toInt + 4 := by rw [i_add (by have : (2 : Int32).toInt = 2 := rfl; omega) (by have : (2 : Int32).toInt = 2 := rfl; omega), hp3]; have : (2 : Int32).toInt = 2 := rfl; omega
                        refine ml_blk 2 (S' := (337, [(0, .ref m0), (1, .int i20_1), (2, .int (f1 f pp))], [.ref m0, .ref m0], M141)) rfl ?_
                        refine rg_int (S' := (340, [(0, .ref m0), (1, .int i20_1), (2, .int (f1 f pp))], [.int ((pp + 1) + 1), .ref m0], M141)) rfl hR145 rfl ((hI146 50 (by decide)).trans (e137)) rfl ?_
                        refine ml_blk 2 (S' := (342, [(0, .ref m0), (1, .int i20_1), (2, .int (f1 f pp))], [.int (((pp + 1) + 1) + 2), .ref m0], M141)) rfl ?_
                        refine rp_int rfl hR145 rfl (fun M151 I152 hR153 e154 f155 => ?_)
                        show ml _ _ _ (345, [(0, .ref m0), (1, .int i20_1), (2, .int (f1 f pp))], [], M151) _
                        refine ml_st (S' := (499, [(0, .ref m0), (1, .int i20_1), (2, .int (f1 f pp))], [], M151)) rfl rfl rfl ?_
                        have hZ156 : SYM Sx Cx I152 R144 := ((((((((hz20.mono (cIx hI35 (by decide)) (cRx hV36 (by decide))).mono (fun _ _ => rfl) (pRx f49 (by decide))).mono (fun _ _ => rfl) (pRx f55 (by decide))).mono (pIx f60 (by decide)) (fun _ _ => rfl)).mono (cIx hI129 (by decide)) (cRx hV130 (by decide))).mono (pIx f138 (by decide)) (fun _ _ => rfl)).mono (cIx hI146 (by decide)) (cRx hV147 (by decide))).mono (pIx f155 (by decide)) (fun _ _ => rfl))
                        exact J_499  _ _ _ hR153 ((((eqI.rf.tr hI129 (by decide)).put f138 (by decide)).tr hI146 (by decide)).put f155 (by decide)) ((eqR.rf.tr hV130 (by decide)).tr hV147 (by decide)) (⟨_, Sx, Cx, e154, by rw [hp5, show esz (f1 f pp) = 4 by rw [Decidable.not_not.mp c_300]; rfl]; omega, by rw [hp5]; omega, hZ156, Nat.le_refl _, by rw [hp5]; omega, by rw [hp5]; omega, fun e => absurd e c_215, fun b _ => congrFun ((hV147 22 (by decide)).trans (hV130 22 (by decide))) b⟩)
                      · have c_330 : ¬ (¬ u148 = 0) := of_decide_eq_false c_330
                        refine ml_st (S' := (334, [(0, .ref m0), (1, .int i20_1), (2, .int (f1 f pp))], [.int 0], M141)) rfl rfl rfl ?_
                        exact ml_ret rfl (r_z (Or.inl rfl)) (⟨_, _, _, rfl, hR145, (((((((eqI.rf.put f15 (by decide)).tr hI_20 (by decide)).tr hI35 (by decide)).put f60 (by decide)).tr hI129 (by decide)).put f138 (by decide)).tr hI146 (by decide)), (((((((eqR.rf.put f21 (by decide)).tr hV_20 (by decide)).tr hV36 (by decide)).put f49 (by decide)).put f55 (by decide)).tr hV130 (by decide)).tr hV147 (by decide)), Or.inl rfl, Or.inl rfl⟩)
                    · have c_308 : ¬ (¬ u131 = 0) := of_decide_eq_false c_308
                      refine ml_st (S' := (312, [(0, .ref m0), (1, .int i20_1), (2, .int (f1 f pp))], [.int 0], M124)) rfl rfl rfl ?_
                      exact ml_ret rfl (r_z (Or.inl rfl)) (⟨_, _, _, rfl, hR128, (((((eqI.rf.put f15 (by decide)).tr hI_20 (by decide)).tr hI35 (by decide)).put f60 (by decide)).tr hI129 (by decide)), ((((((eqR.rf.put f21 (by decide)).tr hV_20 (by decide)).tr hV36 (by decide)).put f49 (by decide)).put f55 (by decide)).tr hV130 (by decide)), Or.inl rfl, Or.inl rfl⟩)
                · have c_215 : ¬ (¬ (f1 f pp) = 1) := of_decide_eq_false c_215
                  refine ml_blk 2 (S' := (222, [(0, .ref m0), (1, .int i20_1), (2, .int (f1 f pp))], [.long 2, .ref m0], M56)) rfl ?_
                  have hF157 : FK n f I57 R51 := (((hF40.mono (fun _ _ => rfl) (pRx f49 (by decide))).mono (fun _ _ => rfl) (pRx f55 (by decide))).mono (pIx f60 (by decide)) (fun _ _ => rfl))
                  refine ml_call (a := [.ref m0, .long 2]) (rest := []) rfl (hR58.okc rfl rfl rfl) rfl rfl (rm_item hR58 (e59) hF157 (by omega) (by omega) (by decide) (by decide) (by omega)) (fun v158 M159 h160 => ?_)
                  obtain ⟨u166, I161, R162, rfl, hR163, hI164, hV165, z167, w168⟩ := h160
                  show ml _ _ _ (225, [(0, .ref m0), (1, .int i20_1), (2, .int (f1 f pp))], [.int u166], M159) _
                  refine ml_if (S1 := (230, [(0, .ref m0), (1, .int i20_1), (2, .int (f1 f pp))], [], M159)) (S2 := (228, [(0, .ref m0), (1, .int i20_1), (2, .int (f1 f pp))], [], M159)) rfl rfl rfl (fun c_225 => ?_) (fun c_225 => ?_)
                  · have c_225 : ¬ u166 = 0 := of_decide_eq_true c_225
                    have hb := w168.resolve_left c_225
                    have hp3 : (pp + 1 + 2).toInt = pp.toInt + 3 := by rw [i_add (by have : (2 : Int32).toInt = 2 := rfl; omega) (by have : (2 : Int32).toInt = 2 := rfl; omega), hp1]; have : (2 : Int32).toInt = 2 := rfl; omega
                    refine ml_blk 2 (S' := (232, [(0, .ref m0), (1, .int i20_1), (2, .int (f1 f pp))], [.ref m0, .ref m0], M159)) rfl ?_
                    refine rg_int (S' := (235, [(0, .ref m0), (1, .int i20_1), (2, .int (f1 f pp))], [.int (pp + 1), .ref m0], M159)) rfl hR163 rfl ((hI164 50 (by decide)).trans (e59)) rfl ?_
                    have hF169 : FK n f I161 R162 := (hF157.mono (cIx hI164 (by decide)) (cRx hV165 (by decide)))
                    refine ml_call (a := [.ref m0, .int (pp + 1)]) (rest := []) rfl (hR163.okc rfl rfl rfl) rfl rfl (rm_u2 hR163 hF169 (by omega) (by omega) (by omega)) (fun v170 M171 h172 => ?_)
                    obtain ⟨rfl, h172⟩ := h172
                    rw [h172]
                    show ml _ _ _ (238, [(0, .ref m0), (1, .int i20_1), (2, .int (f1 f pp))], [.int (f2 f (pp + 1))], M159) _
                    refine ml_st (S' := (240, [(5, .int (f2 f (pp + 1))), (0, .ref m0), (1, .int i20_1), (2, .int (f1 f pp))], [], M159)) rfl rfl rfl ?_
                    refine ml_blk 2 (S' := (242, [(5, .int (f2 f (pp + 1))), (0, .ref m0), (1, .int i20_1), (2, .int (f1 f pp))], [.ref m0, .ref m0], M159)) rfl ?_
                    refine rg_int (S' := (245, [(5, .int (f2 f (pp + 1))), (0, .ref m0), (1, .int i20_1), (2, .int (f1 f pp))], [.int (pp + 1), .ref m0], M159)) rfl hR163 rfl ((hI164 50 (by decide)).trans (e59)) rfl ?_
                    refine ml_blk 2 (S' := (247, [(5, .int (f2 f (pp + 1))), (0, .ref m0), (1, .int i20_1), (2, .int (f1 f pp))], [.int ((pp + 1) + 2), .ref m0], M159)) rfl ?_
                    refine rp_int rfl hR163 rfl (fun M173 I174 hR175 e176 f177 => ?_)
                    show ml _ _ _ (250, [(5, .int (f2 f (pp + 1))), (0, .ref m0), (1, .int i20_1), (2, .int (f1 f pp))], [], M173) _
                    refine ml_blk 3 (S' := (254, [(5, .int (f2 f (pp + 1))), (0, .ref m0), (1, .int i20_1), (2, .int (f1 f pp))], [.long (Int32.toInt64 (f2 f (pp + 1))), .ref m0], M173)) rfl ?_
                    have hF178 : FK n f I174 R162 := (hF169.mono (pIx f177 (by decide)) (fun _ _ => rfl))
                    refine ml_call (a := [.ref m0, .long (Int32.toInt64 (f2 f (pp + 1)))]) (rest := []) rfl (hR175.okc rfl rfl rfl) rfl rfl (rm_item hR175 (e176) hF178 (by omega) (by omega) (by rw [l_of]; exact f2_pos) (by rw [l_of]; have := f2_le (f := f) (x := pp + 1); omega) (by omega)) (fun v179 M180 h181 => ?_)
                    obtain ⟨u187, I182, R183, rfl, hR184, hI185, hV186, z188, w189⟩ := h181
                    show ml _ _ _ (257, [(5, .int (f2 f (pp + 1))), (0, .ref m0), (1, .int i20_1), (2, .int (f1 f pp))], [.int u187], M180) _
                    refine ml_if (S1 := (262, [(5, .int (f2 f (pp + 1))), (0, .ref m0), (1, .int i20_1), (2, .int (f1 f pp))], [], M180)) (S2 := (260, [(5, .int (f2 f (pp + 1))), (0, .ref m0), (1, .int i20_1), (2, .int (f1 f pp))], [], M180)) rfl rfl rfl (fun c_257 => ?_) (fun c_257 => ?_)
                    · have c_257 : ¬ u187 = 0 := of_decide_eq_true c_257
                      have hc := w189.resolve_left c_257
                      rw [l_of] at hc
                      have hl0 := f2_pos (f := f) (x := pp + 1)
                      have hl1 := f2_le (f := f) (x := pp + 1)
                      refine ml_blk 2 (S' := (264, [(5, .int (f2 f (pp + 1))), (0, .ref m0), (1, .int i20_1), (2, .int (f1 f pp))], [.ref m0, .ref m0], M180)) rfl ?_
                      refine rg_int (S' := (267, [(5, .int (f2 f (pp + 1))), (0, .ref m0), (1, .int i20_1), (2, .int (f1 f pp))], [.int 0, .ref m0], M180)) rfl hR184 rfl ((hI185 51 (by decide)).trans ((f177 51 (by decide)).trans ((hI164 51 (by decide)).trans ((f60 51 (by decide)).trans ((hI35 51 (by decide)).trans ((hI_20 51 (by decide)).trans (e14))))))) rfl ?_
                      refine ml_blk 3 (S' := (270, [(5, .int (f2 f (pp + 1))), (0, .ref m0), (1, .int i20_1), (2, .int (f1 f pp))], [.ref m0, .int (0 + i20_1), .ref m0], M180)) rfl ?_
                      refine rg_int (S' := (273, [(5, .int (f2 f (pp + 1))), (0, .ref m0), (1, .int i20_1), (2, .int (f1 f pp))], [.int ((pp + 1) + 2), .int (0 + i20_1), .ref m0], M180)) rfl hR184 rfl ((hI185 50 (by decide)).trans (e176)) rfl ?_
                      refine ml_st (S' := (275, [(5, .int (f2 f (pp + 1))), (0, .ref m0), (1, .int i20_1), (2, .int (f1 f pp))], [.int (f2 f (pp + 1)), .int ((pp + 1) + 2), .int (0 + i20_1), .ref m0], M180)) rfl rfl rfl ?_
                      have hF190 : FK n f I182 R183 := (hF178.mono (cIx hI185 (by decide)) (cRx hV186 (by decide)))
                      have hZ191 : SYM Sx Cx I182 R183 := (((((((hz20.mono (cIx hI35 (by decide)) (cRx hV36 (by decide))).mono (fun _ _ => rfl) (pRx f49 (by decide))).mono (fun _ _ => rfl) (pRx f55 (by decide))).mono (pIx f60 (by decide)) (fun _ _ => rfl)).mono (cIx hI164 (by decide)) (cRx hV165 (by decide))).mono (pIx f177 (by decide)) (fun _ _ => rfl)).mono (cIx hI185 (by decide)) (cRx hV186 (by decide)))
                      refine ml_call (a := [.ref m0, .int (0 + i20_1), .int ((pp + 1) + 2), .int (f2 f (pp + 1))]) (rest := []) rfl (hR184.okc rfl rfl rfl) rfl rfl (rm_utf8 hR184 hF190 hZ191 (by rw [z_add]; omega) (by rw [z_add]; omega) (by omega) (f2_pos) (by omega) (by omega) (by omega) (by omega)) (fun v192 M193 h194 => ?_)
                      obtain ⟨u200, I195, R196, rfl, hR197, hI198, hV199, z201, w202⟩ := h194
                      show ml _ _ _ (278, [(5, .int (f2 f (pp + 1))), (0, .ref m0), (1, .int i20_1), (2, .int (f1 f pp))], [.int u200], M193) _
                      refine ml_if (S1 := (283, [(5, .int (f2 f (pp + 1))), (0, .ref m0), (1, .int i20_1), (2, .int (f1 f pp))], [], M193)) (S2 := (281, [(5, .int (f2 f (pp + 1))), (0, .ref m0), (1, .int i20_1), (2, .int (f1 f pp))], [], M193)) rfl rfl rfl (fun c_278 => ?_) (fun c_278 => ?_)
                      · have c_278 : ¬ u200 = 0 := of_decide_eq_true c_278
                        obtain ⟨S9, c9, hz9, hs0, hs1, hc1, ⟨sy9, hsy, hsy0, hsy1⟩, hoth⟩ := w202.resolve_left c_278
                        rw [z_nat] at hsy hoth
                        have hp5 : (pp + 1 + 2 + (f2 f (pp + 1))).toInt = pp.toInt + 3 + (f2 f (pp + 1)).toInt := by rw [i_add (by omega) (by omega), hp3]
                        refine ml_blk 2 (S' := (285, [(5, .int (f2 f (pp + 1))), (0, .ref m0), (1, .int i20_1), (2, .int (f1 f pp))], [.ref m0, .ref m0], M193)) rfl ?_
                        refine rg_int (S' := (288, [(5, .int (f2 f (pp + 1))), (0, .ref m0), (1, .int i20_1), (2, .int (f1 f pp))], [.int ((pp + 1) + 2), .ref m0], M193)) rfl hR197 rfl ((hI198 50 (by decide)).trans ((hI185 50 (by decide)).trans (e176))) rfl ?_
                        refine ml_blk 2 (S' := (291, [(5, .int (f2 f (pp + 1))), (0, .ref m0), (1, .int i20_1), (2, .int (f1 f pp))], [.int (((pp + 1) + 2) + (f2 f (pp + 1))), .ref m0], M193)) rfl ?_
                        refine rp_int rfl hR197 rfl (fun M203 I204 hR205 e206 f207 => ?_)
                        show ml _ _ _ (294, [(5, .int (f2 f (pp + 1))), (0, .ref m0), (1, .int i20_1), (2, .int (f1 f pp))], [], M203) _
                        refine ml_st (S' := (499, [(0, .ref m0), (1, .int i20_1), (2, .int (f1 f pp))], [], M203)) rfl rfl rfl ?_
                        have hZ208 : SYM S9 c9 I204 R196 := (hz9.mono (pIx f207 (by decide)) (fun _ _ => rfl))
                        exact J_499  _ _ _ hR205 (((((eqI.rf.tr hI164 (by decide)).put f177 (by decide)).tr hI185 (by decide)).tr hI198 (by decide)).put f207 (by decide)) (((eqR.rf.tr hV165 (by decide)).tr hV186 (by decide)).tr hV199 (by decide)) (⟨_, S9, c9, e206, by rw [hp5, show esz (f1 f pp) = 3 by rw [Decidable.not_not.mp c_215]; rfl]; omega, by rw [hp5]; omega, hZ208, hs0, by rw [hp5]; omega, by rw [hp5]; omega, fun _ => ⟨sy9, hsy, hsy0, hsy1⟩, fun b hb => (hoth b hb).trans (congrFun ((hV186 22 (by decide)).trans (hV165 22 (by decide))) b)⟩)
                      · have c_278 : ¬ (¬ u200 = 0) := of_decide_eq_false c_278
                        refine ml_st (S' := (282, [(5, .int (f2 f (pp + 1))), (0, .ref m0), (1, .int i20_1), (2, .int (f1 f pp))], [.int 0], M193)) rfl rfl rfl ?_
                        exact ml_ret rfl (r_z (Or.inl rfl)) (⟨_, _, _, rfl, hR197, ((((((((eqI.rf.put f15 (by decide)).tr hI_20 (by decide)).tr hI35 (by decide)).put f60 (by decide)).tr hI164 (by decide)).put f177 (by decide)).tr hI185 (by decide)).tr hI198 (by decide)), ((((((((eqR.rf.put f21 (by decide)).tr hV_20 (by decide)).tr hV36 (by decide)).put f49 (by decide)).put f55 (by decide)).tr hV165 (by decide)).tr hV186 (by decide)).tr hV199 (by decide)), Or.inl rfl, Or.inl rfl⟩)
                    · have c_257 : ¬ (¬ u187 = 0) := of_decide_eq_false c_257
                      refine ml_st (S' := (261, [(5, .int (f2 f (pp + 1))), (0, .ref m0), (1, .int i20_1), (2, .int (f1 f pp))], [.int 0], M180)) rfl rfl rfl ?_
                      exact ml_ret rfl (r_z (Or.inl rfl)) (⟨_, _, _, rfl, hR184, (((((((eqI.rf.put f15 (by decide)).tr hI_20 (by decide)).tr hI35 (by decide)).put f60 (by decide)).tr hI164 (by decide)).put f177 (by decide)).tr hI185 (by decide)), (((((((eqR.rf.put f21 (by decide)).tr hV_20 (by decide)).tr hV36 (by decide)).put f49 (by decide)).put f55 (by decide)).tr hV165 (by decide)).tr hV186 (by decide)), Or.inl rfl, Or.inl rfl⟩)
                  · have c_225 : ¬ (¬ u166 = 0) := of_decide_eq_false c_225
                    refine ml_st (S' := (229, [(0, .ref m0), (1, .int i20_1), (2, .int (f1 f pp))], [.int 0], M159)) rfl rfl rfl ?_
                    exact ml_ret rfl (r_z (Or.inl rfl)) (⟨_, _, _, rfl, hR163, (((((eqI.rf.put f15 (by decide)).tr hI_20 (by decide)).tr hI35 (by decide)).put f60 (by decide)).tr hI164 (by decide)), ((((((eqR.rf.put f21 (by decide)).tr hV_20 (by decide)).tr hV36 (by decide)).put f49 (by decide)).put f55 (by decide)).tr hV165 (by decide)), Or.inl rfl, Or.inl rfl⟩)
              have J_185 : ml (mT g) d (mb_238 g).2 (185, [(0, .ref m0), (1, .int i20_1), (2, .int (f1 f pp)), (3, .int pp)], [], M50) (fun v M' => ∃ (x : Int32) (I' : rI) (R' : rR), v = some (.int x) ∧ RS g m0 q z I' R' M' ∧ eqI [3, 8, 20, 47, 48, 50, 51] I I' ∧ eqR [1, 2, 4, 5, 6, 7, 21, 22] R R' ∧ (x = 0 ∨ x = 1) ∧ (x = 0 ∨ ∃ (S' cN' : Nat) (p1 : Int32), SYM S' cN' I' R' ∧ I' 50 = some p1 ∧ p0.toInt ≤ p1.toInt ∧ p1.toInt ≤ n ∧ I' 51 = some 0 ∧ PEN f n S' cp.toInt.toNat R')) := by
                refine ml_blk 3 (S' := (188, [(0, .ref m0), (1, .int i20_1), (2, .int (f1 f pp)), (3, .int pp)], [.int (i20_1 + 1)], M50)) rfl ?_
                refine ml_st (S' := (189, [(0, .ref m0), (1, .int i20_1), (2, .int (f1 f pp)), (3, .int pp)], [.ref m0, .int (i20_1 + 1)], M50)) rfl rfl rfl ?_
                refine rg_int (S' := (192, [(0, .ref m0), (1, .int i20_1), (2, .int (f1 f pp)), (3, .int pp)], [.int cp, .int (i20_1 + 1)], M50)) rfl hR52 rfl ((hI35 52 (by decide)).trans ((hI_20 52 (by decide)).trans ((f15 52 (by decide)).trans (hk52)))) rfl ?_
                refine ml_if2 (S1 := (203, [(0, .ref m0), (1, .int i20_1), (2, .int (f1 f pp))], [], M50)) (S2 := (195, [(0, .ref m0), (1, .int i20_1), (2, .int (f1 f pp)), (3, .int pp)], [], M50)) rfl rfl rfl (fun c_192 => ?_) (fun c_192 => ?_)
                · have c_192 : (i20_1 + 1) < cp := of_decide_eq_true c_192
                  exact J_203  (fun _ => by have q := i_lt c_192; omega)
                · have c_192 : ¬ ((i20_1 + 1) < cp) := of_decide_eq_false c_192
                  refine ml_blk 3 (S' := (199, [(0, .ref m0), (1, .int i20_1), (2, .int (f1 f pp)), (3, .int pp)], [.int pp, .int 7, .ref m0], M50)) rfl ?_
                  refine ml_call (a := [.ref m0, .int 7, .int pp]) (rest := []) rfl (hR52.okc rfl rfl rfl) rfl rfl (rm_wrong hR52 (by omega)) (fun v209 M210 h211 => ?_)
                  obtain ⟨u217, I212, R213, rfl, hR214, hI215, hV216, z218, w219⟩ := h211
                  show ml _ _ _ (202, [(0, .ref m0), (1, .int i20_1), (2, .int (f1 f pp)), (3, .int pp)], [.int u217], M210) _
                  exact ml_ret rfl (r_z (z218)) (⟨_, _, _, rfl, hR214, ((((eqI.rf.put f15 (by decide)).tr hI_20 (by decide)).tr hI35 (by decide)).tr hI215 (by decide)), ((((((eqR.rf.put f21 (by decide)).tr hV_20 (by decide)).tr hV36 (by decide)).put f49 (by decide)).put f55 (by decide)).tr hV216 (by decide)), z218, Or.inl w219⟩)
              refine ml_if2 (S1 := (185, [(0, .ref m0), (1, .int i20_1), (2, .int (f1 f pp)), (3, .int pp)], [], M50)) (S2 := (179, [(4, .int s160_0), (0, .ref m0), (1, .int i20_1), (2, .int (f1 f pp)), (3, .int pp)], [], M50)) rfl rfl rfl (fun c_176 => ?_) (fun c_176 => ?_)
              · have c_176 : (f1 f pp) = 5 := of_decide_eq_true c_176
                exact J_185 
              · have c_176 : ¬ ((f1 f pp) = 5) := of_decide_eq_false c_176
                refine ml_blk 2 (S' := (182, [(4, .int s160_0), (0, .ref m0), (1, .int i20_1), (2, .int (f1 f pp)), (3, .int pp)], [.int 6, .int (f1 f pp)], M50)) rfl ?_
                refine ml_if2 (S1 := (203, [(0, .ref m0), (1, .int i20_1), (2, .int (f1 f pp))], [], M50)) (S2 := (185, [(0, .ref m0), (1, .int i20_1), (2, .int (f1 f pp)), (3, .int pp)], [], M50)) rfl rfl rfl (fun c_182 => ?_) (fun c_182 => ?_)
                · have c_182 : ¬ (f1 f pp) = 6 := of_decide_eq_true c_182
                  exact J_203  (fun h => (h.elim c_176 c_182).elim)
                · have c_182 : ¬ (¬ (f1 f pp) = 6) := of_decide_eq_false c_182
                  exact J_185 
            · have c_164 : ¬ (¬ s160_0 = 0) := of_decide_eq_false c_164
              refine ml_blk 3 (S' := (170, [(4, .int s160_0), (0, .ref m0), (1, .int i20_1), (2, .int (f1 f pp)), (3, .int pp)], [.int pp, .int 5, .ref m0], M50)) rfl ?_
              refine ml_call (a := [.ref m0, .int 5, .int pp]) (rest := []) rfl (hR52.okc rfl rfl rfl) rfl rfl (rm_wrong hR52 (by omega)) (fun v220 M221 h222 => ?_)
              obtain ⟨u228, I223, R224, rfl, hR225, hI226, hV227, z229, w230⟩ := h222
              show ml _ _ _ (173, [(4, .int s160_0), (0, .ref m0), (1, .int i20_1), (2, .int (f1 f pp)), (3, .int pp)], [.int u228], M221) _
              exact ml_ret rfl (r_z (z229)) (⟨_, _, _, rfl, hR225, ((((eqI.rf.put f15 (by decide)).tr hI_20 (by decide)).tr hI35 (by decide)).tr hI226 (by decide)), ((((((eqR.rf.put f21 (by decide)).tr hV_20 (by decide)).tr hV36 (by decide)).put f49 (by decide)).put f55 (by decide)).tr hV227 (by decide)), z229, Or.inl w230⟩)
          have J_155 : GT (f1 f pp) → ml (mT g) d (mb_238 g).2 (155, [(0, .ref m0), (1, .int i20_1), (2, .int (f1 f pp)), (3, .int pp)], [], M50) (fun v M' => ∃ (x : Int32) (I' : rI) (R' : rR), v = some (.int x) ∧ RS g m0 q z I' R' M' ∧ eqI [3, 8, 20, 47, 48, 50, 51] I I' ∧ eqR [1, 2, 4, 5, 6, 7, 21, 22] R R' ∧ (x = 0 ∨ x = 1) ∧ (x = 0 ∨ ∃ (S' cN' : Nat) (p1 : Int32), SYM S' cN' I' R' ∧ I' 50 = some p1 ∧ p0.toInt ≤ p1.toInt ∧ p1.toInt ≤ n ∧ I' 51 = some 0 ∧ PEN f n S' cp.toInt.toNat R')) := by
            intro hj_155
            refine ml_st (S' := (156, [(0, .ref m0), (1, .int i20_1), (2, .int (f1 f pp)), (3, .int pp)], [.int 1], M50)) rfl rfl rfl ?_
            refine ml_st (S' := (160, [(0, .ref m0), (1, .int i20_1), (2, .int (f1 f pp)), (3, .int pp)], [.int 1], M50)) rfl rfl rfl ?_
            exact J_160 1 (Or.inr hj_155)
          refine ml_if2 (S1 := (155, [(0, .ref m0), (1, .int i20_1), (2, .int (f1 f pp)), (3, .int pp)], [], M50)) (S2 := (81, [(3, .int pp), (2, .int (f1 f pp)), (0, .ref m0), (1, .int i20_1)], [], M50)) rfl rfl rfl (fun c_78 => ?_) (fun c_78 => ?_)
          · have c_78 : (f1 f pp) = 1 := of_decide_eq_true c_78
            exact J_155  (Or.inl c_78)
          · have c_78 : ¬ ((f1 f pp) = 1) := of_decide_eq_false c_78
            refine ml_blk 2 (S' := (83, [(3, .int pp), (2, .int (f1 f pp)), (0, .ref m0), (1, .int i20_1)], [.int 3, .int (f1 f pp)], M50)) rfl ?_
            have J_92 : ml (mT g) d (mb_238 g).2 (92, [(0, .ref m0), (1, .int i20_1), (2, .int (f1 f pp)), (3, .int pp)], [], M50) (fun v M' => ∃ (x : Int32) (I' : rI) (R' : rR), v = some (.int x) ∧ RS g m0 q z I' R' M' ∧ eqI [3, 8, 20, 47, 48, 50, 51] I I' ∧ eqR [1, 2, 4, 5, 6, 7, 21, 22] R R' ∧ (x = 0 ∨ x = 1) ∧ (x = 0 ∨ ∃ (S' cN' : Nat) (p1 : Int32), SYM S' cN' I' R' ∧ I' 50 = some p1 ∧ p0.toInt ≤ p1.toInt ∧ p1.toInt ≤ n ∧ I' 51 = some 0 ∧ PEN f n S' cp.toInt.toNat R')) := by
              refine ml_blk 2 (S' := (95, [(0, .ref m0), (1, .int i20_1), (2, .int (f1 f pp)), (3, .int pp)], [.int 15, .int (f1 f pp)], M50)) rfl ?_
              have J_119 : ml (mT g) d (mb_238 g).2 (119, [(0, .ref m0), (1, .int i20_1), (2, .int (f1 f pp)), (3, .int pp)], [], M50) (fun v M' => ∃ (x : Int32) (I' : rI) (R' : rR), v = some (.int x) ∧ RS g m0 q z I' R' M' ∧ eqI [3, 8, 20, 47, 48, 50, 51] I I' ∧ eqR [1, 2, 4, 5, 6, 7, 21, 22] R R' ∧ (x = 0 ∨ x = 1) ∧ (x = 0 ∨ ∃ (S' cN' : Nat) (p1 : Int32), SYM S' cN' I' R' ∧ I' 50 = some p1 ∧ p0.toInt ≤ p1.toInt ∧ p1.toInt ≤ n ∧ I' 51 = some 0 ∧ PEN f n S' cp.toInt.toNat R')) := by
                refine ml_blk 2 (S' := (122, [(0, .ref m0), (1, .int i20_1), (2, .int (f1 f pp)), (3, .int pp)], [.int 19, .int (f1 f pp)], M50)) rfl ?_
                have J_140 : ml (mT g) d (mb_238 g).2 (140, [(0, .ref m0), (1, .int i20_1), (2, .int (f1 f pp)), (3, .int pp)], [], M50) (fun v M' => ∃ (x : Int32) (I' : rI) (R' : rR), v = some (.int x) ∧ RS g m0 q z I' R' M' ∧ eqI [3, 8, 20, 47, 48, 50, 51] I I' ∧ eqR [1, 2, 4, 5, 6, 7, 21, 22] R R' ∧ (x = 0 ∨ x = 1) ∧ (x = 0 ∨ ∃ (S' cN' : Nat) (p1 : Int32), SYM S' cN' I' R' ∧ I' 50 = some p1 ∧ p0.toInt ≤ p1.toInt ∧ p1.toInt ≤ n ∧ I' 51 = some 0 ∧ PEN f n S' cp.toInt.toNat R')) := by
                  refine ml_blk 2 (S' := (143, [(0, .ref m0), (1, .int i20_1), (2, .int (f1 f pp)), (3, .int pp)], [.int 17, .int (f1 f pp)], M50)) rfl ?_
                  have J_159 : ml (mT g) d (mb_238 g).2 (159, [(0, .ref m0), (1, .int i20_1), (2, .int (f1 f pp)), (3, .int pp)], [], M50) (fun v M' => ∃ (x : Int32) (I' : rI) (R' : rR), v = some (.int x) ∧ RS g m0 q z I' R' M' ∧ eqI [3, 8, 20, 47, 48, 50, 51] I I' ∧ eqR [1, 2, 4, 5, 6, 7, 21, 22] R R' ∧ (x = 0 ∨ x = 1) ∧ (x = 0 ∨ ∃ (S' cN' : Nat) (p1 : Int32), SYM S' cN' I' R' ∧ I' 50 = some p1 ∧ p0.toInt ≤ p1.toInt ∧ p1.toInt ≤ n ∧ I' 51 = some 0 ∧ PEN f n S' cp.toInt.toNat R')) := by
                    refine ml_st (S' := (160, [(0, .ref m0), (1, .int i20_1), (2, .int (f1 f pp)), (3, .int pp)], [.int 0], M50)) rfl rfl rfl ?_
                    exact J_160 0 (Or.inl rfl)
                  refine ml_if2 (S1 := (159, [(0, .ref m0), (1, .int i20_1), (2, .int (f1 f pp)), (3, .int pp)], [], M50)) (S2 := (146, [(0, .ref m0), (1, .int i20_1), (2, .int (f1 f pp)), (3, .int pp)], [], M50)) rfl rfl rfl (fun c_143 => ?_) (fun c_143 => ?_)
                  · have c_143 : ¬ (f1 f pp) = 17 := of_decide_eq_true c_143
                    exact J_159 
                  · have c_143 : ¬ (¬ (f1 f pp) = 17) := of_decide_eq_false c_143
                    refine ml_st (S' := (147, [(0, .ref m0), (1, .int i20_1), (2, .int (f1 f pp)), (3, .int pp)], [.ref m0], M50)) rfl rfl rfl ?_
                    refine rg_int (S' := (150, [(0, .ref m0), (1, .int i20_1), (2, .int (f1 f pp)), (3, .int pp)], [.int mj], M50)) rfl hR52 rfl ((hI35 53 (by decide)).trans ((hI_20 53 (by decide)).trans ((f15 53 (by decide)).trans (hk53)))) rfl ?_
                    refine ml_st (S' := (152, [(0, .ref m0), (1, .int i20_1), (2, .int (f1 f pp)), (3, .int pp)], [.int 55, .int mj], M50)) rfl rfl rfl ?_
                    refine ml_if2 (S1 := (159, [(0, .ref m0), (1, .int i20_1), (2, .int (f1 f pp)), (3, .int pp)], [], M50)) (S2 := (155, [(0, .ref m0), (1, .int i20_1), (2, .int (f1 f pp)), (3, .int pp)], [], M50)) rfl rfl rfl (fun c_152 => ?_) (fun c_152 => ?_)
                    · have c_152 : mj < 55 := of_decide_eq_true c_152
                      exact J_159 
                    · have c_152 : ¬ (mj < 55) := of_decide_eq_false c_152
                      exact J_155  (Or.inr (Or.inr (Or.inr (Or.inr (Or.inl (Decidable.not_not.mp c_143))))))
                have J_131 : (f1 f pp = 19 ∨ f1 f pp = 20) → ml (mT g) d (mb_238 g).2 (131, [(0, .ref m0), (1, .int i20_1), (2, .int (f1 f pp)), (3, .int pp)], [], M50) (fun v M' => ∃ (x : Int32) (I' : rI) (R' : rR), v = some (.int x) ∧ RS g m0 q z I' R' M' ∧ eqI [3, 8, 20, 47, 48, 50, 51] I I' ∧ eqR [1, 2, 4, 5, 6, 7, 21, 22] R R' ∧ (x = 0 ∨ x = 1) ∧ (x = 0 ∨ ∃ (S' cN' : Nat) (p1 : Int32), SYM S' cN' I' R' ∧ I' 50 = some p1 ∧ p0.toInt ≤ p1.toInt ∧ p1.toInt ≤ n ∧ I' 51 = some 0 ∧ PEN f n S' cp.toInt.toNat R')) := by
                  intro hj_131
                  refine ml_st (S' := (132, [(0, .ref m0), (1, .int i20_1), (2, .int (f1 f pp)), (3, .int pp)], [.ref m0], M50)) rfl rfl rfl ?_
                  refine rg_int (S' := (135, [(0, .ref m0), (1, .int i20_1), (2, .int (f1 f pp)), (3, .int pp)], [.int mj], M50)) rfl hR52 rfl ((hI35 53 (by decide)).trans ((hI_20 53 (by decide)).trans ((f15 53 (by decide)).trans (hk53)))) rfl ?_
                  refine ml_st (S' := (137, [(0, .ref m0), (1, .int i20_1), (2, .int (f1 f pp)), (3, .int pp)], [.int 53, .int mj], M50)) rfl rfl rfl ?_
                  refine ml_if2 (S1 := (155, [(0, .ref m0), (1, .int i20_1), (2, .int (f1 f pp)), (3, .int pp)], [], M50)) (S2 := (140, [(0, .ref m0), (1, .int i20_1), (2, .int (f1 f pp)), (3, .int pp)], [], M50)) rfl rfl rfl (fun c_137 => ?_) (fun c_137 => ?_)
                  · have c_137 : 53 ≤ mj := of_decide_eq_true c_137
                    exact J_155  (Or.inr (Or.inr (Or.inr (Or.inr (Or.inr (Or.inr hj_131))))))
                  · have c_137 : ¬ (53 ≤ mj) := of_decide_eq_false c_137
                    exact J_140 
                refine ml_if2 (S1 := (131, [(0, .ref m0), (1, .int i20_1), (2, .int (f1 f pp)), (3, .int pp)], [], M50)) (S2 := (125, [(0, .ref m0), (1, .int i20_1), (2, .int (f1 f pp)), (3, .int pp)], [], M50)) rfl rfl rfl (fun c_122 => ?_) (fun c_122 => ?_)
                · have c_122 : (f1 f pp) = 19 := of_decide_eq_true c_122
                  exact J_131  (Or.inl c_122)
                · have c_122 : ¬ ((f1 f pp) = 19) := of_decide_eq_false c_122
                  refine ml_blk 2 (S' := (128, [(0, .ref m0), (1, .int i20_1), (2, .int (f1 f pp)), (3, .int pp)], [.int 20, .int (f1 f pp)], M50)) rfl ?_
                  refine ml_if2 (S1 := (140, [(0, .ref m0), (1, .int i20_1), (2, .int (f1 f pp)), (3, .int pp)], [], M50)) (S2 := (131, [(0, .ref m0), (1, .int i20_1), (2, .int (f1 f pp)), (3, .int pp)], [], M50)) rfl rfl rfl (fun c_128 => ?_) (fun c_128 => ?_)
                  · have c_128 : ¬ (f1 f pp) = 20 := of_decide_eq_true c_128
                    exact J_140 
                  · have c_128 : ¬ (¬ (f1 f pp) = 20) := of_decide_eq_false c_128
                    exact J_131  (Or.inr (Decidable.not_not.mp c_128))
              have J_110 : (f1 f pp = 15 ∨ f1 f pp = 16 ∨ f1 f pp = 18) → ml (mT g) d (mb_238 g).2 (110, [(0, .ref m0), (1, .int i20_1), (2, .int (f1 f pp)), (3, .int pp)], [], M50) (fun v M' => ∃ (x : Int32) (I' : rI) (R' : rR), v = some (.int x) ∧ RS g m0 q z I' R' M' ∧ eqI [3, 8, 20, 47, 48, 50, 51] I I' ∧ eqR [1, 2, 4, 5, 6, 7, 21, 22] R R' ∧ (x = 0 ∨ x = 1) ∧ (x = 0 ∨ ∃ (S' cN' : Nat) (p1 : Int32), SYM S' cN' I' R' ∧ I' 50 = some p1 ∧ p0.toInt ≤ p1.toInt ∧ p1.toInt ≤ n ∧ I' 51 = some 0 ∧ PEN f n S' cp.toInt.toNat R')) := by
                intro hj_110
                refine ml_st (S' := (111, [(0, .ref m0), (1, .int i20_1), (2, .int (f1 f pp)), (3, .int pp)], [.ref m0], M50)) rfl rfl rfl ?_
                refine rg_int (S' := (114, [(0, .ref m0), (1, .int i20_1), (2, .int (f1 f pp)), (3, .int pp)], [.int mj], M50)) rfl hR52 rfl ((hI35 53 (by decide)).trans ((hI_20 53 (by decide)).trans ((f15 53 (by decide)).trans (hk53)))) rfl ?_
                refine ml_st (S' := (116, [(0, .ref m0), (1, .int i20_1), (2, .int (f1 f pp)), (3, .int pp)], [.int 51, .int mj], M50)) rfl rfl rfl ?_
                refine ml_if2 (S1 := (155, [(0, .ref m0), (1, .int i20_1), (2, .int (f1 f pp)), (3, .int pp)], [], M50)) (S2 := (119, [(0, .ref m0), (1, .int i20_1), (2, .int (f1 f pp)), (3, .int pp)], [], M50)) rfl rfl rfl (fun c_116 => ?_) (fun c_116 => ?_)
                · have c_116 : 51 ≤ mj := of_decide_eq_true c_116
                  exact J_155  (Or.inr (Or.inr (by rcases hj_110 with h | h | h; exact Or.inl h; exact Or.inr (Or.inl h); exact Or.inr (Or.inr (Or.inr (Or.inl h))))))
                · have c_116 : ¬ (51 ≤ mj) := of_decide_eq_false c_116
                  exact J_119 
              refine ml_if2 (S1 := (110, [(0, .ref m0), (1, .int i20_1), (2, .int (f1 f pp)), (3, .int pp)], [], M50)) (S2 := (98, [(0, .ref m0), (1, .int i20_1), (2, .int (f1 f pp)), (3, .int pp)], [], M50)) rfl rfl rfl (fun c_95 => ?_) (fun c_95 => ?_)
              · have c_95 : (f1 f pp) = 15 := of_decide_eq_true c_95
                exact J_110  (Or.inl c_95)
              · have c_95 : ¬ ((f1 f pp) = 15) := of_decide_eq_false c_95
                refine ml_blk 2 (S' := (101, [(0, .ref m0), (1, .int i20_1), (2, .int (f1 f pp)), (3, .int pp)], [.int 16, .int (f1 f pp)], M50)) rfl ?_
                refine ml_if2 (S1 := (110, [(0, .ref m0), (1, .int i20_1), (2, .int (f1 f pp)), (3, .int pp)], [], M50)) (S2 := (104, [(0, .ref m0), (1, .int i20_1), (2, .int (f1 f pp)), (3, .int pp)], [], M50)) rfl rfl rfl (fun c_101 => ?_) (fun c_101 => ?_)
                · have c_101 : (f1 f pp) = 16 := of_decide_eq_true c_101
                  exact J_110  (Or.inr (Or.inl c_101))
                · have c_101 : ¬ ((f1 f pp) = 16) := of_decide_eq_false c_101
                  refine ml_blk 2 (S' := (107, [(0, .ref m0), (1, .int i20_1), (2, .int (f1 f pp)), (3, .int pp)], [.int 18, .int (f1 f pp)], M50)) rfl ?_
                  refine ml_if2 (S1 := (119, [(0, .ref m0), (1, .int i20_1), (2, .int (f1 f pp)), (3, .int pp)], [], M50)) (S2 := (110, [(0, .ref m0), (1, .int i20_1), (2, .int (f1 f pp)), (3, .int pp)], [], M50)) rfl rfl rfl (fun c_107 => ?_) (fun c_107 => ?_)
                  · have c_107 : ¬ (f1 f pp) = 18 := of_decide_eq_true c_107
                    exact J_119 
                  · have c_107 : ¬ (¬ (f1 f pp) = 18) := of_decide_eq_false c_107
                    exact J_110  (Or.inr (Or.inr (Decidable.not_not.mp c_107)))
            refine ml_if2 (S1 := (92, [(0, .ref m0), (1, .int i20_1), (2, .int (f1 f pp)), (3, .int pp)], [], M50)) (S2 := (86, [(3, .int pp), (2, .int (f1 f pp)), (0, .ref m0), (1, .int i20_1)], [], M50)) rfl rfl rfl (fun c_83 => ?_) (fun c_83 => ?_)
            · have c_83 : (f1 f pp) < 3 := of_decide_eq_true c_83
              exact J_92 
            · have c_83 : ¬ ((f1 f pp) < 3) := of_decide_eq_false c_83
              refine ml_blk 2 (S' := (89, [(3, .int pp), (2, .int (f1 f pp)), (0, .ref m0), (1, .int i20_1)], [.int 12, .int (f1 f pp)], M50)) rfl ?_
              refine ml_if2 (S1 := (155, [(0, .ref m0), (1, .int i20_1), (2, .int (f1 f pp)), (3, .int pp)], [], M50)) (S2 := (92, [(0, .ref m0), (1, .int i20_1), (2, .int (f1 f pp)), (3, .int pp)], [], M50)) rfl rfl rfl (fun c_89 => ?_) (fun c_89 => ?_)
              · have c_89 : (f1 f pp) ≤ 12 := of_decide_eq_true c_89
                exact J_155  (Or.inr (Or.inl ⟨by have q := i_nlt c_83; have : (3 : Int32).toInt = 3 := rfl; omega, by have q := i_le c_89; have : (12 : Int32).toInt = 12 := rfl; omega⟩))
              · have c_89 : ¬ ((f1 f pp) ≤ 12) := of_decide_eq_false c_89
                exact J_92 
        · have c_33 : ¬ (¬ u37 = 0) := of_decide_eq_false c_33
          refine ml_st (S' := (37, [(0, .ref m0), (1, .int i20_1)], [.int 0], M30)) rfl rfl rfl ?_
          exact ml_ret rfl (r_z (Or.inl rfl)) (⟨_, _, _, rfl, hR34, (((eqI.rf.put f15 (by decide)).tr hI_20 (by decide)).tr hI35 (by decide)), (((eqR.rf.put f21 (by decide)).tr hV_20 (by decide)).tr hV36 (by decide)), Or.inl rfl, Or.inl rfl⟩)
  have hZ231 : SYM S cN I12 R17 := ((hZ.mono (pIx f15 (by decide)) (fun _ _ => rfl)).mono (fun _ _ => rfl) (pRx f21 (by decide)))
  exact L_20 _ 1 p0 S cN _ _ _ (Nat.le_refl _) hR18 eqI.rf eqR.rf (⟨(f15 50 (by decide)).trans (hk50), by omega, by omega, by decide, by show (1 : Int) ≤ _; omega, hZ231, by omega, by omega, ⟨e19, fun j h1 h2 => absurd h2 (by show ¬ j < (1 : Nat); omega)⟩⟩)
