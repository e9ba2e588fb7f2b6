section
/-! the reference: the pool is read (laid by wip/p2/c63.py) -/
theorem esz_ge {t : Int32} : 3 ≤ esz t := by
  unfold esz
  split
  · omega
  · split
    · omega
    · split <;> omega

set_option maxHeartbeats 2000000 in
theorem rm_readPool {g : xe_G}  {m0 : Nat} {q : Nat → Nat} {z : Nat × Nat} {I : rI} {R : rR} {M : mi_H} {p0 cp mj : Int32} {n : Nat} {f : Nat → Int32} {S cN : Nat}  (hR : RS g m0 q z I R M) (hk20 : I 20 = some 0) (hk50 : I 50 = some p0) (hk52 : I 52 = some cp) (hk53 : I 53 = some mj) (hF : FK n f I R) (hZ : SYM S cN I R) (hp0 : 0 ≤ p0.toInt) (hpn : p0.toInt ≤ n) (hc1 : 1 ≤ cp.toInt) (hc2 : cp.toInt ≤ 65535) (hS3 : S ≤ 3) (hC3 : cN ≤ 30) {d : Nat} (hd : 3 ≤ d) : mt (mT g) d 238 [.ref m0] M (fun v M' => ∃ (x : Int32) (I' : rI) (R' : rR), v = some (.int x) ∧ RS g m0 q z I' R' M' ∧ eqI [3, 8, 20, 47, 48, 50, 51] I I' ∧ eqR [1, 2, 4, 5, 6, 7, 21, 22] R R' ∧ (x = 0 ∨ x = 1) ∧ (x = 0 ∨ ∃ (S' cN' : Nat) (p1 : Int32), SYM S' cN' I' R' ∧ I' 50 = some p1 ∧ p0.toInt ≤ p1.toInt ∧ p1.toInt ≤ n ∧ I' 51 = some 0 ∧ PEN f n S' cp.toInt.toNat R')) := by
  obtain ⟨d, rfl⟩ : ∃ e, d = e + 1 := ⟨d - 1, by omega⟩
  refine mt_in (b := mb_238 g) rfl rfl ?_
  show ml (mT g) d (mb_238 g).2 (0, [(0, .ref m0)], [], M) _
  have hn := hF.1
  have l2 : (2 : Int64).toInt = 2 := rfl
  have l4 : (4 : Int64).toInt = 4 := rfl
  have l1 : (1 : Int64).toInt = 1 := rfl
  refine ml_blk 2 (S' := (2, [(0, .ref m0)], [.ref m0, .ref m0], M)) rfl ?_
  refine rg_int (S' := (5, [(0, .ref m0)], [.int 0, .ref m0], M)) rfl hR rfl (hk20) rfl ?_
  refine rp_int rfl hR rfl (fun M11 I12 hR13 e14 f15 => ?_)
  show ml _ _ _ (8, [(0, .ref m0)], [], M11) _
  refine ml_st (S' := (9, [(0, .ref m0)], [.ref m0], M11)) rfl rfl rfl ?_
  refine rg_ref (S' := (12, [(0, .ref m0)], [.ref (q 21)], M11)) rfl hR13 rfl rfl ?_
  refine ml_st (S' := (13, [(0, .ref m0)], [.ref m0, .ref (q 21)], M11)) rfl rfl rfl ?_
  refine rg_int (S' := (16, [(0, .ref m0)], [.int 0, .ref (q 21)], M11)) rfl hR13 rfl (e14) rfl ?_
  refine ml_st (S' := (17, [(0, .ref m0)], [.int (-1), .int 0, .ref (q 21)], M11)) rfl rfl rfl ?_
  refine ra_st (k := 21) rfl hR13 rfl (vin_lt (by decide) (by decide)) (fun M16 R17 hR18 e19 g20 f21 => ?_)
  show ml _ _ _ (18, [(0, .ref m0)], [], M16) _
  refine ml_st (S' := (19, [(0, .ref m0)], [.int 1], M16)) rfl rfl rfl ?_
  refine ml_st (S' := (20, [(0, .ref m0), (1, .int 1)], [], M16)) rfl rfl rfl ?_
  have L_20 : ∀ (n_20 : Nat) (i20_1 : Int32) (pp : Int32) (Sx : Nat) (Cx : Nat) (M_20 : mi_H) (I_20 : rI) (R_20 : rR), (2147483648 - i20_1.toInt).toNat ≤ n_20 → RS g m0 q z I_20 R_20 M_20 → eqI [3, 8, 47, 48, 50] I12 I_20 → eqR [1, 2, 4, 5, 6, 7, 21, 22] R17 R_20 → (I_20 50 = some pp ∧ p0.toInt ≤ pp.toInt ∧ pp.toInt ≤ n ∧ 1 ≤ i20_1.toInt ∧ i20_1.toInt ≤ cp.toInt ∧ SYM Sx Cx I_20 R_20 ∧ 3 * (Sx : Int) ≤ pp.toInt + 9 ∧ (Cx : Int) ≤ pp.toInt + 30 ∧ PEN f n Sx i20_1.toInt.toNat R_20) → ml (mT g) d (mb_238 g).2 (20, [(0, .ref m0), (1, .int i20_1)], [], M_20) (fun v M' => ∃ (x : Int32) (I' : rI) (R' : rR), v = some (.int x) ∧ RS g m0 q z I' R' M' ∧ eqI [3, 8, 20, 47, 48, 50, 51] I I' ∧ eqR [1, 2, 4, 5, 6, 7, 21, 22] R R' ∧ (x = 0 ∨ x = 1) ∧ (x = 0 ∨ ∃ (S' cN' : Nat) (p1 : Int32), SYM S' cN' I' R' ∧ I' 50 = some p1 ∧ p0.toInt ≤ p1.toInt ∧ p1.toInt ≤ n ∧ I' 51 = some 0 ∧ PEN f n S' cp.toInt.toNat R')) := by
    intro n_20
    induction n_20 with
    | zero => intro i20_1 pp Sx Cx M_20 I_20 R_20 hn; exact (loop_zero hn).elim
    | succ n_20 ih_20 =>
      intro i20_1 pp Sx Cx M_20 I_20 R_20 hn_20 hR_20 hI_20 hV_20 hi_20
      obtain ⟨hi50, hpp0, hpp1, hk0, hk1, hz20, hsx, hcx, hpen⟩ := hi_20
      refine ml_blk 2 (S' := (22, [(0, .ref m0), (1, .int i20_1)], [.ref m0, .int i20_1], M_20)) rfl ?_
      refine rg_int (S' := (25, [(0, .ref m0), (1, .int i20_1)], [.int cp, .int i20_1], M_20)) rfl hR_20 rfl ((hI_20 52 (by decide)).trans ((f15 52 (by decide)).trans (hk52))) rfl ?_
      refine ml_if2 (S1 := (531, [(0, .ref m0), (1, .int i20_1)], [], M_20)) (S2 := (28, [(0, .ref m0), (1, .int i20_1)], [], M_20)) rfl rfl rfl (fun c_25 => ?_) (fun c_25 => ?_)
      · have c_25 : cp ≤ i20_1 := of_decide_eq_true c_25
        refine ml_blk 2 (S' := (533, [(0, .ref m0), (1, .int i20_1)], [.ref m0, .ref m0], M_20)) rfl ?_
        refine rg_int (S' := (536, [(0, .ref m0), (1, .int i20_1)], [.int 0, .ref m0], M_20)) rfl hR_20 rfl ((hI_20 51 (by decide)).trans (e14)) rfl ?_
        refine ml_st (S' := (537, [(0, .ref m0), (1, .int i20_1)], [.ref m0, .int 0, .ref m0], M_20)) rfl rfl rfl ?_
        refine rg_int (S' := (540, [(0, .ref m0), (1, .int i20_1)], [.int cp, .int 0, .ref m0], M_20)) rfl hR_20 rfl ((hI_20 52 (by decide)).trans ((f15 52 (by decide)).trans (hk52))) rfl ?_
        refine ml_st (S' := (541, [(0, .ref m0), (1, .int i20_1)], [.int (0 + cp), .ref m0], M_20)) rfl rfl rfl ?_
        refine rp_int rfl hR_20 rfl (fun M22 I23 hR24 e25 f26 => ?_)
        show ml _ _ _ (544, [(0, .ref m0), (1, .int i20_1)], [], M22) _
        refine ml_st (S' := (545, [(0, .ref m0), (1, .int i20_1)], [.int 1], M22)) rfl rfl rfl ?_
        have hZ27 : SYM Sx Cx I23 R_20 := (hz20.mono (pIx f26 (by decide)) (fun _ _ => rfl))
        exact ml_ret rfl (r_z (Or.inr rfl)) (⟨_, _, _, rfl, hR24, (((eqI.rf.put f15 (by decide)).tr hI_20 (by decide)).put f26 (by decide)), ((eqR.rf.put f21 (by decide)).tr hV_20 (by decide)), Or.inr rfl, Or.inr ⟨Sx, Cx, pp, hZ27, (f26 50 (by decide)).trans (hi50), hpp0, hpp1, (f26 51 (by decide)).trans ((hI_20 51 (by decide)).trans (e14)), by rw [show cp.toInt.toNat = i20_1.toInt.toNat by have := i_le c_25; omega]; exact hpen⟩⟩)
      · have c_25 : ¬ (cp ≤ i20_1) := of_decide_eq_false c_25
        refine ml_blk 2 (S' := (30, [(0, .ref m0), (1, .int i20_1)], [.long 1, .ref m0], M_20)) rfl ?_
        have hF28 : FK n f I_20 R_20 := (((hF.mono (pIx f15 (by decide)) (fun _ _ => rfl)).mono (fun _ _ => rfl) (pRx f21 (by decide))).mono (cIx hI_20 (by decide)) (cRx hV_20 (by decide)))
        refine ml_call (a := [.ref m0, .long 1]) (rest := []) rfl (hR_20.okc rfl rfl rfl) rfl rfl (rm_item hR_20 (hi50) hF28 (by omega) (by omega) (by decide) (by decide) (by omega)) (fun v29 M30 h31 => ?_)
        obtain ⟨u37, I32, R33, rfl, hR34, hI35, hV36, z38, w39⟩ := h31
        show ml _ _ _ (33, [(0, .ref m0), (1, .int i20_1)], [.int u37], M30) _
        refine ml_if (S1 := (38, [(0, .ref m0), (1, .int i20_1)], [], M30)) (S2 := (36, [(0, .ref m0), (1, .int i20_1)], [], M30)) rfl rfl rfl (fun c_33 => ?_) (fun c_33 => ?_)
        · have c_33 : ¬ u37 = 0 := of_decide_eq_true c_33
          have ha := w39.resolve_left c_33
          have hkk : (i20_1 + 1).toInt = i20_1.toInt + 1 := inc_lt (Int32.not_le.mp c_25)
          have hklt := i_nle c_25
          have hp1 : (pp + 1).toInt = pp.toInt + 1 := i_add (by have : (1 : Int32).toInt = 1 := rfl; omega) (by have : (1 : Int32).toInt = 1 := rfl; omega)
          refine ml_blk 2 (S' := (40, [(0, .ref m0), (1, .int i20_1)], [.ref m0, .ref m0], M30)) rfl ?_
          refine rg_int (S' := (43, [(0, .ref m0), (1, .int i20_1)], [.int pp, .ref m0], M30)) rfl hR34 rfl ((hI35 50 (by decide)).trans (hi50)) rfl ?_
          have hF40 : FK n f I32 R33 := (hF28.mono (cIx hI35 (by decide)) (cRx hV36 (by decide)))
          refine ml_call (a := [.ref m0, .int pp]) (rest := []) rfl (hR34.okc rfl rfl rfl) rfl rfl (rm_u1 hR34 hF40 (by omega) (by omega) (by omega)) (fun v41 M42 h43 => ?_)
          obtain ⟨rfl, h43⟩ := h43
          rw [h43]
          show ml _ _ _ (46, [(0, .ref m0), (1, .int i20_1)], [.int (f1 f pp)], M30) _
          refine ml_st (S' := (47, [(2, .int (f1 f pp)), (0, .ref m0), (1, .int i20_1)], [], M30)) rfl rfl rfl ?_
          refine ml_st (S' := (48, [(2, .int (f1 f pp)), (0, .ref m0), (1, .int i20_1)], [.ref m0], M30)) rfl rfl rfl ?_
          refine rg_int (S' := (51, [(2, .int (f1 f pp)), (0, .ref m0), (1, .int i20_1)], [.int pp], M30)) rfl hR34 rfl ((hI35 50 (by decide)).trans (hi50)) rfl ?_
          refine ml_st (S' := (52, [(3, .int pp), (2, .int (f1 f pp)), (0, .ref m0), (1, .int i20_1)], [], M30)) rfl rfl rfl ?_
          refine ml_st (S' := (53, [(3, .int pp), (2, .int (f1 f pp)), (0, .ref m0), (1, .int i20_1)], [.ref m0], M30)) rfl rfl rfl ?_
          refine rg_ref (S' := (56, [(3, .int pp), (2, .int (f1 f pp)), (0, .ref m0), (1, .int i20_1)], [.ref (q 21)], M30)) rfl hR34 rfl rfl ?_
          refine ml_st (S' := (57, [(3, .int pp), (2, .int (f1 f pp)), (0, .ref m0), (1, .int i20_1)], [.ref m0, .ref (q 21)], M30)) rfl rfl rfl ?_
          refine rg_int (S' := (60, [(3, .int pp), (2, .int (f1 f pp)), (0, .ref m0), (1, .int i20_1)], [.int 0, .ref (q 21)], M30)) rfl hR34 rfl ((hI35 51 (by decide)).trans ((hI_20 51 (by decide)).trans (e14))) rfl ?_
          refine ml_blk 3 (S' := (63, [(3, .int pp), (2, .int (f1 f pp)), (0, .ref m0), (1, .int i20_1)], [.int pp, .int (0 + i20_1), .ref (q 21)], M30)) rfl ?_
          refine ra_st (k := 21) rfl hR34 rfl (vin_z (by omega) (by omega)) (fun M44 R45 hR46 e47 g48 f49 => ?_)
          show ml _ _ _ (64, [(3, .int pp), (2, .int (f1 f pp)), (0, .ref m0), (1, .int i20_1)], [], M44) _
          refine ml_st (S' := (65, [(3, .int pp), (2, .int (f1 f pp)), (0, .ref m0), (1, .int i20_1)], [.ref m0], M44)) rfl rfl rfl ?_
          refine rg_ref (S' := (68, [(3, .int pp), (2, .int (f1 f pp)), (0, .ref m0), (1, .int i20_1)], [.ref (q 22)], M44)) rfl hR46 rfl rfl ?_
          refine ml_st (S' := (69, [(3, .int pp), (2, .int (f1 f pp)), (0, .ref m0), (1, .int i20_1)], [.ref m0, .ref (q 22)], M44)) rfl rfl rfl ?_
          refine rg_int (S' := (72, [(3, .int pp), (2, .int (f1 f pp)), (0, .ref m0), (1, .int i20_1)], [.int 0, .ref (q 22)], M44)) rfl hR46 rfl ((hI35 51 (by decide)).trans ((hI_20 51 (by decide)).trans (e14))) rfl ?_
          refine ml_blk 3 (S' := (75, [(3, .int pp), (2, .int (f1 f pp)), (0, .ref m0), (1, .int i20_1)], [.int (-1), .int (0 + i20_1), .ref (q 22)], M44)) rfl ?_
          refine ra_st (k := 22) rfl hR46 rfl (vin_z (by omega) (by omega)) (fun M50 R51 hR52 e53 g54 f55 => ?_)
          show ml _ _ _ (76, [(3, .int pp), (2, .int (f1 f pp)), (0, .ref m0), (1, .int i20_1)], [], M50) _
          rw [z_nat] at e47 g48
          rw [z_nat] at e53 g54
          refine ml_blk 2 (S' := (78, [(3, .int pp), (2, .int (f1 f pp)), (0, .ref m0), (1, .int i20_1)], [.int 1, .int (f1 f pp)], M50)) rfl ?_
          have J_160 : ∀ (s160_0 : Int32), (s160_0 = 0 ∨ GT (f1 f pp)) → ml (mT g) d (mb_238 g).2 (160, [(0, .ref m0), (1, .int i20_1), (2, .int (f1 f pp)), (3, .int pp)], [.int s160_0], M50) (fun v M' => ∃ (x : Int32) (I' : rI) (R' : rR), v = some (.int x) ∧ RS g m0 q z I' R' M' ∧ eqI [3, 8, 20, 47, 48, 50, 51] I I' ∧ eqR [1, 2, 4, 5, 6, 7, 21, 22] R R' ∧ (x = 0 ∨ x = 1) ∧ (x = 0 ∨ ∃ (S' cN' : Nat) (p1 : Int32), SYM S' cN' I' R' ∧ I' 50 = some p1 ∧ p0.toInt ≤ p1.toInt ∧ p1.toInt ≤ n ∧ I' 51 = some 0 ∧ PEN f n S' cp.toInt.toNat R')) := by
            intro s160_0 hj_160
            refine ml_st (S' := (162, [(4, .int s160_0), (0, .ref m0), (1, .int i20_1), (2, .int (f1 f pp)), (3, .int pp)], [], M50)) rfl rfl rfl ?_
            refine ml_st (S' := (164, [(4, .int s160_0), (0, .ref m0), (1, .int i20_1), (2, .int (f1 f pp)), (3, .int pp)], [.int s160_0], M50)) rfl rfl rfl ?_
            refine ml_if (S1 := (174, [(4, .int s160_0), (0, .ref m0), (1, .int i20_1), (2, .int (f1 f pp)), (3, .int pp)], [], M50)) (S2 := (167, [(4, .int s160_0), (0, .ref m0), (1, .int i20_1), (2, .int (f1 f pp)), (3, .int pp)], [], M50)) rfl rfl rfl (fun c_164 => ?_) (fun c_164 => ?_)
            · have c_164 : ¬ s160_0 = 0 := of_decide_eq_true c_164
              have hgt := hj_160.resolve_left c_164
              refine ml_blk 2 (S' := (176, [(4, .int s160_0), (0, .ref m0), (1, .int i20_1), (2, .int (f1 f pp)), (3, .int pp)], [.int 5, .int (f1 f pp)], M50)) rfl ?_
              have J_203 : ((f1 f pp = 5 ∨ f1 f pp = 6) → i20_1.toInt + 1 < cp.toInt) → ml (mT g) d (mb_238 g).2 (203, [(0, .ref m0), (1, .int i20_1), (2, .int (f1 f pp))], [], M50) (fun v M' => ∃ (x : Int32) (I' : rI) (R' : rR), v = some (.int x) ∧ RS g m0 q z I' R' M' ∧ eqI [3, 8, 20, 47, 48, 50, 51] I I' ∧ eqR [1, 2, 4, 5, 6, 7, 21, 22] R R' ∧ (x = 0 ∨ x = 1) ∧ (x = 0 ∨ ∃ (S' cN' : Nat) (p1 : Int32), SYM S' cN' I' R' ∧ I' 50 = some p1 ∧ p0.toInt ≤ p1.toInt ∧ p1.toInt ≤ n ∧ I' 51 = some 0 ∧ PEN f n S' cp.toInt.toNat R')) := by
                intro hj_203
                refine ml_blk 2 (S' := (205, [(0, .ref m0), (1, .int i20_1), (2, .int (f1 f pp))], [.ref m0, .ref m0], M50)) rfl ?_
                refine rg_int (S' := (208, [(0, .ref m0), (1, .int i20_1), (2, .int (f1 f pp))], [.int pp, .ref m0], M50)) rfl hR52 rfl ((hI35 50 (by decide)).trans (hi50)) rfl ?_
                refine ml_blk 2 (S' := (210, [(0, .ref m0), (1, .int i20_1), (2, .int (f1 f pp))], [.int (pp + 1), .ref m0], M50)) rfl ?_
                refine rp_int rfl hR52 rfl (fun M56 I57 hR58 e59 f60 => ?_)
                show ml _ _ _ (213, [(0, .ref m0), (1, .int i20_1), (2, .int (f1 f pp))], [], M56) _
                refine ml_blk 2 (S' := (215, [(0, .ref m0), (1, .int i20_1), (2, .int (f1 f pp))], [.int 1, .int (f1 f pp)], M56)) rfl ?_
                have J_499 : ∀ (M_499 : mi_H) (I_499 : rI) (R_499 : rR), RS g m0 q z I_499 R_499 M_499 → eqI [3, 8, 47, 48, 50] I57 I_499 → eqR [1, 2, 4, 5, 6, 7, 22] R51 R_499 → (∃ (p2 : Int32) (S2 c2 : Nat), I_499 50 = some p2 ∧ pp.toInt + esz (f1 f pp) ≤ p2.toInt ∧ p2.toInt ≤ n ∧ SYM S2 c2 I_499 R_499 ∧ Sx ≤ S2 ∧ 3 * (S2 : Int) ≤ p2.toInt + 9 ∧ (c2 : Int) ≤ p2.toInt + 30 ∧ (f1 f pp = 1 → ∃ sy, R_499 22 i20_1.toNatClampNeg = some sy ∧ 0 ≤ sy.toInt ∧ sy.toInt < S2) ∧ ∀ b, b ≠ i20_1.toNatClampNeg → R_499 22 b = R51 22 b) → ml (mT g) d (mb_238 g).2 (499, [(0, .ref m0), (1, .int i20_1), (2, .int (f1 f pp))], [], M_499) (fun v M' => ∃ (x : Int32) (I' : rI) (R' : rR), v = some (.int x) ∧ RS g m0 q z I' R' M' ∧ eqI [3, 8, 20, 47, 48, 50, 51] I I' ∧ eqR [1, 2, 4, 5, 6, 7, 21, 22] R R' ∧ (x = 0 ∨ x = 1) ∧ (x = 0 ∨ ∃ (S' cN' : Nat) (p1 : Int32), SYM S' cN' I' R' ∧ I' 50 = some p1 ∧ p0.toInt ≤ p1.toInt ∧ p1.toInt ≤ n ∧ I' 51 = some 0 ∧ PEN f n S' cp.toInt.toNat R')) := by
                  intro M_499 I_499 R_499 hR_499 hI_499 hV_499 hj_499
                  obtain ⟨p2, S2, c2, hp2, hp2s, hp2n, hz2, hS2, hs2, hc2, htx, hot⟩ := hj_499
                  have hez : 3 ≤ esz (f1 f pp) := esz_ge
                  have hpen2 : PEN f n S2 (i20_1.toInt.toNat + 1) R_499 := PEN.step (k := i20_1.toInt.toNat) hpen hS2 ((congrFun ((hV_499 21 (by decide)).trans (f55 21 (by decide))) _).trans e47) (fun b hb => (congrFun ((hV_499 21 (by decide)).trans (f55 21 (by decide))) b).trans ((g48 b hb).trans (congrFun ((hV36 21 (by decide))) b))) (fun b hb => (hot b hb).trans ((g54 b hb).trans (congrFun ((f49 22 (by decide)).trans ((hV36 22 (by decide)))) b))) ⟨by omega, by omega, htx⟩ (by omega)
                  refine ml_blk 2 (S' := (501, [(0, .ref m0), (1, .int i20_1), (2, .int (f1 f pp))], [.int 5, .int (f1 f pp)], M_499)) rfl ?_
                  have J_510 : (f1 f pp = 5 ∨ f1 f pp = 6) → ml (mT g) d (mb_238 g).2 (510, [(0, .ref m0), (1, .int i20_1)], [], M_499) (fun v M' => ∃ (x : Int32) (I' : rI) (R' : rR), v = some (.int x) ∧ RS g m0 q z I' R' M' ∧ eqI [3, 8, 20, 47, 48, 50, 51] I I' ∧ eqR [1, 2, 4, 5, 6, 7, 21, 22] R R' ∧ (x = 0 ∨ x = 1) ∧ (x = 0 ∨ ∃ (S' cN' : Nat) (p1 : Int32), SYM S' cN' I' R' ∧ I' 50 = some p1 ∧ p0.toInt ≤ p1.toInt ∧ p1.toInt ≤ n ∧ I' 51 = some 0 ∧ PEN f n S' cp.toInt.toNat R')) := by
                    intro hj_510
                    refine ml_st (S' := (513, [(1, .int (i20_1 + 1)), (0, .ref m0)], [], M_499)) rfl rfl rfl ?_
                    refine ml_st (S' := (514, [(1, .int (i20_1 + 1)), (0, .ref m0)], [.ref m0], M_499)) rfl rfl rfl ?_
                    refine rg_ref (S' := (517, [(1, .int (i20_1 + 1)), (0, .ref m0)], [.ref (q 21)], M_499)) rfl hR_499 rfl rfl ?_
                    refine ml_st (S' := (518, [(1, .int (i20_1 + 1)), (0, .ref m0)], [.ref m0, .ref (q 21)], M_499)) rfl rfl rfl ?_
                    refine rg_int (S' := (521, [(1, .int (i20_1 + 1)), (0, .ref m0)], [.int 0, .ref (q 21)], M_499)) rfl hR_499 rfl ((hI_499 51 (by decide)).trans ((f60 51 (by decide)).trans ((hI35 51 (by decide)).trans ((hI_20 51 (by decide)).trans (e14))))) rfl ?_
                    refine ml_blk 3 (S' := (524, [(1, .int (i20_1 + 1)), (0, .ref m0)], [.int (-1), .int (0 + (i20_1 + 1)), .ref (q 21)], M_499)) rfl ?_
                    refine ra_st (k := 21) rfl hR_499 rfl (vin_z (by rw [hkk]; omega) (by rw [hkk]; omega)) (fun M61 R62 hR63 e64 g65 f66 => ?_)
                    show ml _ _ _ (525, [(0, .ref m0), (1, .int (i20_1 + 1))], [], M61) _
                    refine ml_st (S' := (528, [(1, .int ((i20_1 + 1) + 1)), (0, .ref m0)], [], M61)) rfl rfl rfl ?_
                    refine ml_st (S' := (20, [(0, .ref m0), (1, .int ((i20_1 + 1) + 1))], [], M61)) rfl rfl rfl ?_
                    have hZ67 : SYM S2 c2 I_499 R62 := (hz2.mono (fun _ _ => rfl) (pRx f66 (by decide)))
                    rw [z_nat] at e64 g65
                    have hk2 : (i20_1 + 1 + 1).toInt = i20_1.toInt + 2 := by rw [i_add (by have : (1 : Int32).toInt = 1 := rfl; omega) (by have : (1 : Int32).toInt = 1 := rfl; omega), hkk]; have : (1 : Int32).toInt = 1 := rfl; omega
                    have hkn1 : (i20_1 + 1).toNatClampNeg = i20_1.toInt.toNat + 1 := by show (i20_1 + 1).toInt.toNat = _; omega
                    rw [hkn1] at e64 g65
                    exact ih_20 ((i20_1 + 1) + 1) p2 S2 c2 _ _ _ (by rw [show (i20_1 + 1 + 1).toInt = i20_1.toInt + 2 by rw [i_add (by have : (1 : Int32).toInt = 1 := rfl; omega) (by have : (1 : Int32).toInt = 1 := rfl; omega), hkk]; have : (1 : Int32).toInt = 1 := rfl; omega]; omega) hR63 ((((eqI.rf.tr hI_20 (by decide)).tr hI35 (by decide)).put f60 (by decide)).tr hI_499 (by decide)) ((((((eqR.rf.tr hV_20 (by decide)).tr hV36 (by decide)).put f49 (by decide)).put f55 (by decide)).tr hV_499 (by decide)).put f66 (by decide)) (⟨hp2, by omega, hp2n, by rw [hk2]; omega, by rw [hk2]; have := hj_203 hj_510; omega, hZ67, hs2, hc2, by rw [show (i20_1 + 1 + 1).toInt.toNat = i20_1.toInt.toNat + 1 + 1 by omega]; exact hpen2.wide e64 g65 (f66 22 (by decide)) (by omega)⟩)
                  refine ml_if2 (S1 := (510, [(0, .ref m0), (1, .int i20_1)], [], M_499)) (S2 := (504, [(0, .ref m0), (1, .int i20_1), (2, .int (f1 f pp))], [], M_499)) rfl rfl rfl (fun c_501 => ?_) (fun c_501 => ?_)
                  · have c_501 : (f1 f pp) = 5 := of_decide_eq_true c_501
                    exact J_510  (Or.inl c_501)
                  · have c_501 : ¬ ((f1 f pp) = 5) := of_decide_eq_false c_501
                    refine ml_blk 2 (S' := (507, [(0, .ref m0), (1, .int i20_1), (2, .int (f1 f pp))], [.int 6, .int (f1 f pp)], M_499)) rfl ?_
                    refine ml_if2 (S1 := (525, [(0, .ref m0), (1, .int i20_1)], [], M_499)) (S2 := (510, [(0, .ref m0), (1, .int i20_1)], [], M_499)) rfl rfl rfl (fun c_507 => ?_) (fun c_507 => ?_)
                    · have c_507 : ¬ (f1 f pp) = 6 := of_decide_eq_true c_507
                      refine ml_st (S' := (528, [(1, .int (i20_1 + 1)), (0, .ref m0)], [], M_499)) rfl rfl rfl ?_
                      refine ml_st (S' := (20, [(0, .ref m0), (1, .int (i20_1 + 1))], [], M_499)) rfl rfl rfl ?_
                      exact ih_20 (i20_1 + 1) p2 S2 c2 _ _ _ (by rw [hkk]; omega) hR_499 ((((eqI.rf.tr hI_20 (by decide)).tr hI35 (by decide)).put f60 (by decide)).tr hI_499 (by decide)) (((((eqR.rf.tr hV_20 (by decide)).tr hV36 (by decide)).put f49 (by decide)).put f55 (by decide)).tr hV_499 (by decide)) (⟨hp2, by omega, hp2n, by rw [hkk]; omega, by rw [hkk]; have := i_nle c_25; omega, hz2, hs2, hc2, by rw [show (i20_1 + 1).toInt.toNat = i20_1.toInt.toNat + 1 by omega]; exact hpen2⟩)
                    · have c_507 : ¬ (¬ (f1 f pp) = 6) := of_decide_eq_false c_507
                      exact J_510  (Or.inr (Decidable.not_not.mp c_507))
                refine ml_if2 (S1 := (297, [(0, .ref m0), (1, .int i20_1), (2, .int (f1 f pp))], [], M56)) (S2 := (218, [(0, .ref m0), (1, .int i20_1), (2, .int (f1 f pp))], [], M56)) rfl rfl rfl (fun c_215 => ?_) (fun c_215 => ?_)
                · have c_215 : ¬ (f1 f pp) = 1 := of_decide_eq_true c_215
                  refine ml_blk 2 (S' := (300, [(0, .ref m0), (1, .int i20_1), (2, .int (f1 f pp))], [.int 15, .int (f1 f pp)], M56)) rfl ?_
                  refine ml_if2 (S1 := (348, [(0, .ref m0), (1, .int i20_1), (2, .int (f1 f pp))], [], M56)) (S2 := (303, [(0, .ref m0), (1, .int i20_1), (2, .int (f1 f pp))], [], M56)) rfl rfl rfl (fun c_300 => ?_) (fun c_300 => ?_)
                  · have c_300 : ¬ (f1 f pp) = 15 := of_decide_eq_true c_300
                    refine ml_blk 2 (S' := (350, [(0, .ref m0), (1, .int i20_1), (2, .int (f1 f pp))], [.int 3, .int (f1 f pp)], M56)) rfl ?_
                    have J_358 : (f1 f pp = 3 ∨ f1 f pp = 4) → ml (mT g) d (mb_238 g).2 (358, [(0, .ref m0), (1, .int i20_1), (2, .int (f1 f pp))], [], M56) (fun v M' => ∃ (x : Int32) (I' : rI) (R' : rR), v = some (.int x) ∧ RS g m0 q z I' R' M' ∧ eqI [3, 8, 20, 47, 48, 50, 51] I I' ∧ eqR [1, 2, 4, 5, 6, 7, 21, 22] R R' ∧ (x = 0 ∨ x = 1) ∧ (x = 0 ∨ ∃ (S' cN' : Nat) (p1 : Int32), SYM S' cN' I' R' ∧ I' 50 = some p1 ∧ p0.toInt ≤ p1.toInt ∧ p1.toInt ≤ n ∧ I' 51 = some 0 ∧ PEN f n S' cp.toInt.toNat R')) := by
                      intro hj_358
                      refine ml_blk 2 (S' := (362, [(0, .ref m0), (1, .int i20_1), (2, .int (f1 f pp))], [.long 4, .ref m0], M56)) rfl ?_
                      have hF68 : FK n f I57 R51 := (((hF40.mono (fun _ _ => rfl) (pRx f49 (by decide))).mono (fun _ _ => rfl) (pRx f55 (by decide))).mono (pIx f60 (by decide)) (fun _ _ => rfl))
                      refine ml_call (a := [.ref m0, .long 4]) (rest := []) rfl (hR58.okc rfl rfl rfl) rfl rfl (rm_item hR58 (e59) hF68 (by omega) (by omega) (by decide) (by decide) (by omega)) (fun v69 M70 h71 => ?_)
                      obtain ⟨u77, I72, R73, rfl, hR74, hI75, hV76, z78, w79⟩ := h71
                      show ml _ _ _ (365, [(0, .ref m0), (1, .int i20_1), (2, .int (f1 f pp))], [.int u77], M70) _
                      refine ml_if (S1 := (370, [(0, .ref m0), (1, .int i20_1), (2, .int (f1 f pp))], [], M70)) (S2 := (368, [(0, .ref m0), (1, .int i20_1), (2, .int (f1 f pp))], [], M70)) rfl rfl rfl (fun c_365 => ?_) (fun c_365 => ?_)
                      · have c_365 : ¬ u77 = 0 := of_decide_eq_true c_365
                        have hb := w79.resolve_left c_365
                        have hp5 : (pp + 1 + 4).toInt = pp.toInt + 5 := by rw [i_add (by have : (4 : Int32).toInt = 4 := rfl; omega) (by have : (4 : Int32).toInt = 4 := rfl; omega), hp1]; have : (4 : Int32).toInt = 4 := rfl; omega
                        refine ml_blk 2 (S' := (372, [(0, .ref m0), (1, .int i20_1), (2, .int (f1 f pp))], [.ref m0, .ref m0], M70)) rfl ?_
                        refine rg_int (S' := (375, [(0, .ref m0), (1, .int i20_1), (2, .int (f1 f pp))], [.int (pp + 1), .ref m0], M70)) rfl hR74 rfl ((hI75 50 (by decide)).trans (e59)) rfl ?_
                        refine ml_blk 2 (S' := (377, [(0, .ref m0), (1, .int i20_1), (2, .int (f1 f pp))], [.int ((pp + 1) + 4), .ref m0], M70)) rfl ?_
                        refine rp_int rfl hR74 rfl (fun M80 I81 hR82 e83 f84 => ?_)
                        show ml _ _ _ (380, [(0, .ref m0), (1, .int i20_1), (2, .int (f1 f pp))], [], M80) _
                        refine ml_st (S' := (499, [(0, .ref m0), (1, .int i20_1), (2, .int (f1 f pp))], [], M80)) rfl rfl rfl ?_
                        have hZ85 : SYM Sx Cx I81 R73 := ((((((hz20.mono (cIx hI35 (by decide)) (cRx hV36 (by decide))).mono (fun _ _ => rfl) (pRx f49 (by decide))).mono (fun _ _ => rfl) (pRx f55 (by decide))).mono (pIx f60 (by decide)) (fun _ _ => rfl)).mono (cIx hI75 (by decide)) (cRx hV76 (by decide))).mono (pIx f84 (by decide)) (fun _ _ => rfl))
                        exact J_499  _ _ _ hR82 ((eqI.rf.tr hI75 (by decide)).put f84 (by decide)) (eqR.rf.tr hV76 (by decide)) (⟨_, Sx, Cx, e83, by rw [hp5, esz5 hj_358]; omega, by rw [hp5]; omega, hZ85, Nat.le_refl _, by rw [hp5]; omega, by rw [hp5]; omega, fun e => absurd e c_215, fun b _ => congrFun (hV76 22 (by decide)) b⟩)
                      · have c_365 : ¬ (¬ u77 = 0) := of_decide_eq_false c_365
                        refine ml_st (S' := (369, [(0, .ref m0), (1, .int i20_1), (2, .int (f1 f pp))], [.int 0], M70)) rfl rfl rfl ?_
                        exact ml_ret rfl (r_z (Or.inl rfl)) (⟨_, _, _, rfl, hR74, (((((eqI.rf.put f15 (by decide)).tr hI_20 (by decide)).tr hI35 (by decide)).put f60 (by decide)).tr hI75 (by decide)), ((((((eqR.rf.put f21 (by decide)).tr hV_20 (by decide)).tr hV36 (by decide)).put f49 (by decide)).put f55 (by decide)).tr hV76 (by decide)), Or.inl rfl, Or.inl rfl⟩)
                    refine ml_if2 (S1 := (358, [(0, .ref m0), (1, .int i20_1), (2, .int (f1 f pp))], [], M56)) (S2 := (353, [(0, .ref m0), (1, .int i20_1), (2, .int (f1 f pp))], [], M56)) rfl rfl rfl (fun c_350 => ?_) (fun c_350 => ?_)
                    · have c_350 : (f1 f pp) = 3 := of_decide_eq_true c_350
                      exact J_358  (Or.inl c_350)
                    · have c_350 : ¬ ((f1 f pp) = 3) := of_decide_eq_false c_350
                      refine ml_blk 2 (S' := (355, [(0, .ref m0), (1, .int i20_1), (2, .int (f1 f pp))], [.int 4, .int (f1 f pp)], M56)) rfl ?_
                      refine ml_if2 (S1 := (383, [(0, .ref m0), (1, .int i20_1), (2, .int (f1 f pp))], [], M56)) (S2 := (358, [(0, .ref m0), (1, .int i20_1), (2, .int (f1 f pp))], [], M56)) rfl rfl rfl (fun c_355 => ?_) (fun c_355 => ?_)
                      · have c_355 : ¬ (f1 f pp) = 4 := of_decide_eq_true c_355
                        refine ml_blk 2 (S' := (385, [(0, .ref m0), (1, .int i20_1), (2, .int (f1 f pp))], [.int 5, .int (f1 f pp)], M56)) rfl ?_
                        have J_394 : (f1 f pp = 5 ∨ f1 f pp = 6) → ml (mT g) d (mb_238 g).2 (394, [(0, .ref m0), (1, .int i20_1), (2, .int (f1 f pp))], [], M56) (fun v M' => ∃ (x : Int32) (I' : rI) (R' : rR), v = some (.int x) ∧ RS g m0 q z I' R' M' ∧ eqI [3, 8, 20, 47, 48, 50, 51] I I' ∧ eqR [1, 2, 4, 5, 6, 7, 21, 22] R R' ∧ (x = 0 ∨ x = 1) ∧ (x = 0 ∨ ∃ (S' cN' : Nat) (p1 : Int32), SYM S' cN' I' R' ∧ I' 50 = some p1 ∧ p0.toInt ≤ p1.toInt ∧ p1.toInt ≤ n ∧ I' 51 = some 0 ∧ PEN f n S' cp.toInt.toNat R')) := by
                          intro hj_394
                          refine ml_st (S' := (395, [(0, .ref m0), (1, .int i20_1), (2, .int (f1 f pp))], [.int 0], M56)) rfl rfl rfl ?_
                          refine ml_st (S' := (397, [(0, .ref m0), (1, .int i20_1), (2, .int (f1 f pp)), (5, .int 0)], [], M56)) rfl rfl rfl ?_
                          have L_397 : ∀ (n_397 : Nat) (i397_5 : Int32) (pq : Int32) (M_397 : mi_H) (I_397 : rI) (R_397 : rR), (2147483648 - i397_5.toInt).toNat ≤ n_397 → RS g m0 q z I_397 R_397 M_397 → eqI [47, 48, 50] I57 I_397 → eqR [] R51 R_397 → (I_397 50 = some pq ∧ 0 ≤ i397_5.toInt ∧ i397_5.toInt ≤ 2 ∧ pq.toInt = pp.toInt + 1 + 4 * i397_5.toInt ∧ pq.toInt ≤ n) → ml (mT g) d (mb_238 g).2 (397, [(0, .ref m0), (1, .int i20_1), (2, .int (f1 f pp)), (5, .int i397_5)], [], M_397) (fun v M' => ∃ (x : Int32) (I' : rI) (R' : rR), v = some (.int x) ∧ RS g m0 q z I' R' M' ∧ eqI [3, 8, 20, 47, 48, 50, 51] I I' ∧ eqR [1, 2, 4, 5, 6, 7, 21, 22] R R' ∧ (x = 0 ∨ x = 1) ∧ (x = 0 ∨ ∃ (S' cN' : Nat) (p1 : Int32), SYM S' cN' I' R' ∧ I' 50 = some p1 ∧ p0.toInt ≤ p1.toInt ∧ p1.toInt ≤ n ∧ I' 51 = some 0 ∧ PEN f n S' cp.toInt.toNat R')) := by
                            intro n_397
                            induction n_397 with
                            | zero => intro i397_5 pq M_397 I_397 R_397 hn; exact (loop_zero hn).elim
                            | succ n_397 ih_397 =>
                              intro i397_5 pq M_397 I_397 R_397 hn_397 hR_397 hI_397 hV_397 hi_397
                              obtain ⟨hq50, hq0, hq1, hqe, hqn⟩ := hi_397
                              refine ml_blk 2 (S' := (400, [(0, .ref m0), (1, .int i20_1), (2, .int (f1 f pp)), (5, .int i397_5)], [.int 2, .int i397_5], M_397)) rfl ?_
                              refine ml_if2 (S1 := (431, [(0, .ref m0), (1, .int i20_1), (2, .int (f1 f pp)), (5, .int i397_5)], [], M_397)) (S2 := (403, [(0, .ref m0), (1, .int i20_1), (2, .int (f1 f pp)), (5, .int i397_5)], [], M_397)) rfl rfl rfl (fun c_400 => ?_) (fun c_400 => ?_)
                              · have c_400 : 2 ≤ i397_5 := of_decide_eq_true c_400
                                have hq6 : pq.toInt = pp.toInt + 9 := by have q := i_le c_400; have : (2 : Int32).toInt = 2 := rfl; omega
                                refine ml_st (S' := (499, [(0, .ref m0), (1, .int i20_1), (2, .int (f1 f pp))], [], M_397)) rfl rfl rfl ?_
                                have hZ86 : SYM Sx Cx I_397 R_397 := (((((hz20.mono (cIx hI35 (by decide)) (cRx hV36 (by decide))).mono (fun _ _ => rfl) (pRx f49 (by decide))).mono (fun _ _ => rfl) (pRx f55 (by decide))).mono (pIx f60 (by decide)) (fun _ _ => rfl)).mono (cIx hI_397 (by decide)) (cRx hV_397 (by decide)))
                                exact J_499  _ _ _ hR_397 (eqI.rf.tr hI_397 (by decide)) (eqR.rf.tr hV_397 (by decide)) (⟨_, Sx, Cx, hq50, by rw [hq6, esz9 hj_394]; omega, by rw [hq6]; omega, hZ86, Nat.le_refl _, by rw [hq6]; omega, by rw [hq6]; omega, fun e => absurd e c_215, fun b _ => congrFun (hV_397 22 (by decide)) b⟩)
                              · have c_400 : ¬ (2 ≤ i397_5) := of_decide_eq_false c_400
                                refine ml_blk 2 (S' := (407, [(0, .ref m0), (1, .int i20_1), (2, .int (f1 f pp)), (5, .int i397_5)], [.long 4, .ref m0], M_397)) rfl ?_
                                have hF87 : FK n f I_397 R_397 := ((((hF40.mono (fun _ _ => rfl) (pRx f49 (by decide))).mono (fun _ _ => rfl) (pRx f55 (by decide))).mono (pIx f60 (by decide)) (fun _ _ => rfl)).mono (cIx hI_397 (by decide)) (cRx hV_397 (by decide)))
                                refine ml_call (a := [.ref m0, .long 4]) (rest := []) rfl (hR_397.okc rfl rfl rfl) rfl rfl (rm_item hR_397 (hq50) hF87 (by omega) (by omega) (by decide) (by decide) (by omega)) (fun v88 M89 h90 => ?_)
                                obtain ⟨u96, I91, R92, rfl, hR93, hI94, hV95, z97, w98⟩ := h90
                                show ml _ _ _ (410, [(0, .ref m0), (1, .int i20_1), (2, .int (f1 f pp)), (5, .int i397_5)], [.int u96], M89) _
                                refine ml_if (S1 := (415, [(0, .ref m0), (1, .int i20_1), (2, .int (f1 f pp)), (5, .int i397_5)], [], M89)) (S2 := (413, [(0, .ref m0), (1, .int i20_1), (2, .int (f1 f pp)), (5, .int i397_5)], [], M89)) rfl rfl rfl (fun c_410 => ?_) (fun c_410 => ?_)
                                · have c_410 : ¬ u96 = 0 := of_decide_eq_true c_410
                                  have hb := w98.resolve_left c_410
                                  have hq4 : (pq + 4).toInt = pq.toInt + 4 := i_add (by have : (4 : Int32).toInt = 4 := rfl; omega) (by have : (4 : Int32).toInt = 4 := rfl; omega)
                                  have hq5 := inc_lt (Int32.not_le.mp c_400)
                                  refine ml_blk 2 (S' := (417, [(0, .ref m0), (1, .int i20_1), (2, .int (f1 f pp)), (5, .int i397_5)], [.ref m0, .ref m0], M89)) rfl ?_
                                  refine rg_int (S' := (420, [(0, .ref m0), (1, .int i20_1), (2, .int (f1 f pp)), (5, .int i397_5)], [.int pq, .ref m0], M89)) rfl hR93 rfl ((hI94 50 (by decide)).trans (hq50)) rfl ?_
                                  refine ml_blk 2 (S' := (422, [(0, .ref m0), (1, .int i20_1), (2, .int (f1 f pp)), (5, .int i397_5)], [.int (pq + 4), .ref m0], M89)) rfl ?_
                                  refine rp_int rfl hR93 rfl (fun M99 I100 hR101 e102 f103 => ?_)
                                  show ml _ _ _ (425, [(0, .ref m0), (1, .int i20_1), (2, .int (f1 f pp)), (5, .int i397_5)], [], M99) _
                                  refine ml_st (S' := (428, [(5, .int (i397_5 + 1)), (0, .ref m0), (1, .int i20_1), (2, .int (f1 f pp))], [], M99)) rfl rfl rfl ?_
                                  refine ml_st (S' := (397, [(0, .ref m0), (1, .int i20_1), (2, .int (f1 f pp)), (5, .int (i397_5 + 1))], [], M99)) rfl rfl rfl ?_
                                  exact ih_397 (i397_5 + 1) (pq + 4) _ _ _ (loop_inc (Int32.not_le.mp c_400) hn_397) hR101 (((eqI.rf.tr hI_397 (by decide)).tr hI94 (by decide)).put f103 (by decide)) ((eqR.rf.tr hV_397 (by decide)).tr hV95 (by decide)) (⟨e102, by rw [hq5]; omega, by rw [hq5]; have := i_nle c_400; have : (2 : Int32).toInt = 2 := rfl; omega, by rw [hq5]; omega, by omega⟩)
                                · have c_410 : ¬ (¬ u96 = 0) := of_decide_eq_false c_410
                                  refine ml_st (S' := (414, [(0, .ref m0), (1, .int i20_1), (2, .int (f1 f pp)), (5, .int i397_5)], [.int 0], M89)) rfl rfl rfl ?_
                                  exact ml_ret rfl (r_z (Or.inl rfl)) (⟨_, _, _, rfl, hR93, ((((((eqI.rf.put f15 (by decide)).tr hI_20 (by decide)).tr hI35 (by decide)).put f60 (by decide)).tr hI_397 (by decide)).tr hI94 (by decide)), (((((((eqR.rf.put f21 (by decide)).tr hV_20 (by decide)).tr hV36 (by decide)).put f49 (by decide)).put f55 (by decide)).tr hV_397 (by decide)).tr hV95 (by decide)), Or.inl rfl, Or.inl rfl⟩)
                          exact L_397 _ 0 (pp + 1) _ _ _ (Nat.le_refl _) hR58 eqI.rf eqR.rf (⟨e59, by decide, by decide, by show _ = pp.toInt + 1 + 4 * 0; omega, by omega⟩)
                        refine ml_if2 (S1 := (394, [(0, .ref m0), (1, .int i20_1), (2, .int (f1 f pp))], [], M56)) (S2 := (388, [(0, .ref m0), (1, .int i20_1), (2, .int (f1 f pp))], [], M56)) rfl rfl rfl (fun c_385 => ?_) (fun c_385 => ?_)
                        · have c_385 : (f1 f pp) = 5 := of_decide_eq_true c_385
                          exact J_394  (Or.inl c_385)
                        · have c_385 : ¬ ((f1 f pp) = 5) := of_decide_eq_false c_385
                          refine ml_blk 2 (S' := (391, [(0, .ref m0), (1, .int i20_1), (2, .int (f1 f pp))], [.int 6, .int (f1 f pp)], M56)) rfl ?_
                          refine ml_if2 (S1 := (434, [(0, .ref m0), (1, .int i20_1), (2, .int (f1 f pp))], [], M56)) (S2 := (394, [(0, .ref m0), (1, .int i20_1), (2, .int (f1 f pp))], [], M56)) rfl rfl rfl (fun c_391 => ?_) (fun c_391 => ?_)
                          · have c_391 : ¬ (f1 f pp) = 6 := of_decide_eq_true c_391
                            refine ml_st (S' := (435, [(0, .ref m0), (1, .int i20_1), (2, .int (f1 f pp))], [.int 0], M56)) rfl rfl rfl ?_
                            refine ml_st (S' := (437, [(0, .ref m0), (1, .int i20_1), (2, .int (f1 f pp)), (5, .int 0)], [], M56)) rfl rfl rfl ?_
                            have L_437 : ∀ (n_437 : Nat) (i437_5 : Int32) (pq : Int32) (M_437 : mi_H) (I_437 : rI) (R_437 : rR), (2147483648 - i437_5.toInt).toNat ≤ n_437 → RS g m0 q z I_437 R_437 M_437 → eqI [47, 48, 50] I57 I_437 → eqR [] R51 R_437 → (I_437 50 = some pq ∧ 0 ≤ i437_5.toInt ∧ i437_5.toInt ≤ 2 ∧ pq.toInt = pp.toInt + 1 + 2 * i437_5.toInt ∧ pq.toInt ≤ n) → ml (mT g) d (mb_238 g).2 (437, [(0, .ref m0), (1, .int i20_1), (2, .int (f1 f pp)), (5, .int i437_5)], [], M_437) (fun v M' => ∃ (x : Int32) (I' : rI) (R' : rR), v = some (.int x) ∧ RS g m0 q z I' R' M' ∧ eqI [3, 8, 20, 47, 48, 50, 51] I I' ∧ eqR [1, 2, 4, 5, 6, 7, 21, 22] R R' ∧ (x = 0 ∨ x = 1) ∧ (x = 0 ∨ ∃ (S' cN' : Nat) (p1 : Int32), SYM S' cN' I' R' ∧ I' 50 = some p1 ∧ p0.toInt ≤ p1.toInt ∧ p1.toInt ≤ n ∧ I' 51 = some 0 ∧ PEN f n S' cp.toInt.toNat R')) := by
                              intro n_437
                              induction n_437 with
                              | zero => intro i437_5 pq M_437 I_437 R_437 hn; exact (loop_zero hn).elim
                              | succ n_437 ih_437 =>
                                intro i437_5 pq M_437 I_437 R_437 hn_437 hR_437 hI_437 hV_437 hi_437
                                obtain ⟨hq50, hq0, hq1, hqe, hqn⟩ := hi_437
                                have hno : ¬ (f1 f pp = 5 ∨ f1 f pp = 6) := fun h => h.elim c_385 c_391
                                refine ml_blk 3 (S' := (442, [(0, .ref m0), (1, .int i20_1), (2, .int (f1 f pp)), (5, .int i437_5)], [.int 9, .int (f1 f pp), .int i437_5], M_437)) rfl ?_
                                have J_468 : ∀ (s468_0 : Int32), (s468_0 = 2 ∨ s468_0 = 1 ∧ esz (f1 f pp) ≤ 3) → ml (mT g) d (mb_238 g).2 (468, [(0, .ref m0), (1, .int i20_1), (2, .int (f1 f pp)), (5, .int i437_5)], [.int s468_0, .int i437_5], M_437) (fun v M' => ∃ (x : Int32) (I' : rI) (R' : rR), v = some (.int x) ∧ RS g m0 q z I' R' M' ∧ eqI [3, 8, 20, 47, 48, 50, 51] I I' ∧ eqR [1, 2, 4, 5, 6, 7, 21, 22] R R' ∧ (x = 0 ∨ x = 1) ∧ (x = 0 ∨ ∃ (S' cN' : Nat) (p1 : Int32), SYM S' cN' I' R' ∧ I' 50 = some p1 ∧ p0.toInt ≤ p1.toInt ∧ p1.toInt ≤ n ∧ I' 51 = some 0 ∧ PEN f n S' cp.toInt.toNat R')) := by
                                  intro s468_0 hj_468
                                  refine ml_if2 (S1 := (499, [(0, .ref m0), (1, .int i20_1), (2, .int (f1 f pp))], [], M_437)) (S2 := (471, [(0, .ref m0), (1, .int i20_1), (2, .int (f1 f pp)), (5, .int i437_5)], [], M_437)) rfl rfl rfl (fun c_468 => ?_) (fun c_468 => ?_)
                                  · have c_468 : s468_0 ≤ i437_5 := of_decide_eq_true c_468
                                    have hZ104 : SYM Sx Cx I_437 R_437 := (((((hz20.mono (cIx hI35 (by decide)) (cRx hV36 (by decide))).mono (fun _ _ => rfl) (pRx f49 (by decide))).mono (fun _ _ => rfl) (pRx f55 (by decide))).mono (pIx f60 (by decide)) (fun _ _ => rfl)).mono (cIx hI_437 (by decide)) (cRx hV_437 (by decide)))
                                    exact J_499  _ _ _ hR_437 (eqI.rf.tr hI_437 (by decide)) (eqR.rf.tr hV_437 (by decide)) (⟨_, Sx, Cx, hq50, by have q := i_le c_468; rcases hj_468 with e | ⟨e, e3⟩; (rw [e] at q; have : (2 : Int32).toInt = 2 := rfl; have := esz_le5 hno; omega); (rw [e] at q; have : (1 : Int32).toInt = 1 := rfl; omega), by omega, hZ104, Nat.le_refl _, by have q := i_le c_468; rcases hj_468 with e | ⟨e, e3⟩; (rw [e] at q; have : (2 : Int32).toInt = 2 := rfl; omega); (rw [e] at q; have : (1 : Int32).toInt = 1 := rfl; omega), by have q := i_le c_468; rcases hj_468 with e | ⟨e, e3⟩; (rw [e] at q; have : (2 : Int32).toInt = 2 := rfl; omega); (rw [e] at q; have : (1 : Int32).toInt = 1 := rfl; omega), fun e => absurd e c_215, fun b _ => congrFun (hV_437 22 (by decide)) b⟩)
                                  · have c_468 : ¬ (s468_0 ≤ i437_5) := of_decide_eq_false c_468
                                    refine ml_blk 2 (S' := (475, [(0, .ref m0), (1, .int i20_1), (2, .int (f1 f pp)), (5, .int i437_5)], [.long 2, .ref m0], M_437)) rfl ?_
                                    have hF105 : FK n f I_437 R_437 := ((((hF40.mono (fun _ _ => rfl) (pRx f49 (by decide))).mono (fun _ _ => rfl) (pRx f55 (by decide))).mono (pIx f60 (by decide)) (fun _ _ => rfl)).mono (cIx hI_437 (by decide)) (cRx hV_437 (by decide)))
                                    refine ml_call (a := [.ref m0, .long 2]) (rest := []) rfl (hR_437.okc rfl rfl rfl) rfl rfl (rm_item hR_437 (hq50) hF105 (by omega) (by omega) (by decide) (by decide) (by omega)) (fun v106 M107 h108 => ?_)
                                    obtain ⟨u114, I109, R110, rfl, hR111, hI112, hV113, z115, w116⟩ := h108
                                    show ml _ _ _ (478, [(0, .ref m0), (1, .int i20_1), (2, .int (f1 f pp)), (5, .int i437_5)], [.int u114], M107) _
                                    refine ml_if (S1 := (483, [(0, .ref m0), (1, .int i20_1), (2, .int (f1 f pp)), (5, .int i437_5)], [], M107)) (S2 := (481, [(0, .ref m0), (1, .int i20_1), (2, .int (f1 f pp)), (5, .int i437_5)], [], M107)) rfl rfl rfl (fun c_478 => ?_) (fun c_478 => ?_)
                                    · have c_478 : ¬ u114 = 0 := of_decide_eq_true c_478
                                      have hb := w116.resolve_left c_478
                                      have hq4 : (pq + 2).toInt = pq.toInt + 2 := i_add (by have : (2 : Int32).toInt = 2 := rfl; omega) (by have : (2 : Int32).toInt = 2 := rfl; omega)
                                      have hq5 := inc_lt (Int32.not_le.mp c_468)
                                      have hq2 : i437_5.toInt < 2 := by have q := i_nle c_468; rcases hj_468 with e | ⟨e, -⟩; (rw [e] at q; have : (2 : Int32).toInt = 2 := rfl; omega); (rw [e] at q; have : (1 : Int32).toInt = 1 := rfl; omega)
                                      refine ml_blk 2 (S' := (485, [(0, .ref m0), (1, .int i20_1), (2, .int (f1 f pp)), (5, .int i437_5)], [.ref m0, .ref m0], M107)) rfl ?_
                                      refine rg_int (S' := (488, [(0, .ref m0), (1, .int i20_1), (2, .int (f1 f pp)), (5, .int i437_5)], [.int pq, .ref m0], M107)) rfl hR111 rfl ((hI112 50 (by decide)).trans (hq50)) rfl ?_
                                      refine ml_blk 2 (S' := (490, [(0, .ref m0), (1, .int i20_1), (2, .int (f1 f pp)), (5, .int i437_5)], [.int (pq + 2), .ref m0], M107)) rfl ?_
                                      refine rp_int rfl hR111 rfl (fun M117 I118 hR119 e120 f121 => ?_)
                                      show ml _ _ _ (493, [(0, .ref m0), (1, .int i20_1), (2, .int (f1 f pp)), (5, .int i437_5)], [], M117) _
                                      refine ml_st (S' := (496, [(5, .int (i437_5 + 1)), (0, .ref m0), (1, .int i20_1), (2, .int (f1 f pp))], [], M117)) rfl rfl rfl ?_
                                      refine ml_st (S' := (437, [(0, .ref m0), (1, .int i20_1), (2, .int (f1 f pp)), (5, .int (i437_5 + 1))], [], M117)) rfl rfl rfl ?_
                                      exact ih_437 (i437_5 + 1) (pq + 2) _ _ _ (loop_inc (Int32.not_le.mp c_468) hn_437) hR119 (((eqI.rf.tr hI_437 (by decide)).tr hI112 (by decide)).put f121 (by decide)) ((eqR.rf.tr hV_437 (by decide)).tr hV113 (by decide)) (⟨e120, by rw [hq5]; omega, by rw [hq5]; omega, by rw [hq5]; omega, by omega⟩)
                                    · have c_478 : ¬ (¬ u114 = 0) := of_decide_eq_false c_478
                                      refine ml_st (S' := (482, [(0, .ref m0), (1, .int i20_1), (2, .int (f1 f pp)), (5, .int i437_5)], [.int 0], M107)) rfl rfl rfl ?_
                                      exact ml_ret rfl (r_z (Or.inl rfl)) (⟨_, _, _, rfl, hR111, ((((((eqI.rf.put f15 (by decide)).tr hI_20 (by decide)).tr hI35 (by decide)).put f60 (by decide)).tr hI_437 (by decide)).tr hI112 (by decide)), (((((((eqR.rf.put f21 (by decide)).tr hV_20 (by decide)).tr hV36 (by decide)).put f49 (by decide)).put f55 (by decide)).tr hV_437 (by decide)).tr hV113 (by decide)), Or.inl rfl, Or.inl rfl⟩)
                                have J_463 : ml (mT g) d (mb_238 g).2 (463, [(0, .ref m0), (1, .int i20_1), (2, .int (f1 f pp)), (5, .int i437_5)], [.int i437_5], M_437) (fun v M' => ∃ (x : Int32) (I' : rI) (R' : rR), v = some (.int x) ∧ RS g m0 q z I' R' M' ∧ eqI [3, 8, 20, 47, 48, 50, 51] I I' ∧ eqR [1, 2, 4, 5, 6, 7, 21, 22] R R' ∧ (x = 0 ∨ x = 1) ∧ (x = 0 ∨ ∃ (S' cN' : Nat) (p1 : Int32), SYM S' cN' I' R' ∧ I' 50 = some p1 ∧ p0.toInt ≤ p1.toInt ∧ p1.toInt ≤ n ∧ I' 51 = some 0 ∧ PEN f n S' cp.toInt.toNat R')) := by
                                  refine ml_st (S' := (464, [(0, .ref m0), (1, .int i20_1), (2, .int (f1 f pp)), (5, .int i437_5)], [.int 2, .int i437_5], M_437)) rfl rfl rfl ?_
                                  refine ml_st (S' := (468, [(0, .ref m0), (1, .int i20_1), (2, .int (f1 f pp)), (5, .int i437_5)], [.int 2, .int i437_5], M_437)) rfl rfl rfl ?_
                                  exact J_468 2 (Or.inl rfl)
                                have J_451 : (f1 f pp < 9 ∨ 12 < f1 f pp) → ml (mT g) d (mb_238 g).2 (451, [(0, .ref m0), (1, .int i20_1), (2, .int (f1 f pp)), (5, .int i437_5)], [.int i437_5], M_437) (fun v M' => ∃ (x : Int32) (I' : rI) (R' : rR), v = some (.int x) ∧ RS g m0 q z I' R' M' ∧ eqI [3, 8, 20, 47, 48, 50, 51] I I' ∧ eqR [1, 2, 4, 5, 6, 7, 21, 22] R R' ∧ (x = 0 ∨ x = 1) ∧ (x = 0 ∨ ∃ (S' cN' : Nat) (p1 : Int32), SYM S' cN' I' R' ∧ I' 50 = some p1 ∧ p0.toInt ≤ p1.toInt ∧ p1.toInt ≤ n ∧ I' 51 = some 0 ∧ PEN f n S' cp.toInt.toNat R')) := by
                                  intro hj_451
                                  refine ml_blk 2 (S' := (454, [(0, .ref m0), (1, .int i20_1), (2, .int (f1 f pp)), (5, .int i437_5)], [.int 17, .int (f1 f pp), .int i437_5], M_437)) rfl ?_
                                  refine ml_if2 (S1 := (463, [(0, .ref m0), (1, .int i20_1), (2, .int (f1 f pp)), (5, .int i437_5)], [.int i437_5], M_437)) (S2 := (457, [(0, .ref m0), (1, .int i20_1), (2, .int (f1 f pp)), (5, .int i437_5)], [.int i437_5], M_437)) rfl rfl rfl (fun c_454 => ?_) (fun c_454 => ?_)
                                  · have c_454 : (f1 f pp) = 17 := of_decide_eq_true c_454
                                    exact J_463 
                                  · have c_454 : ¬ ((f1 f pp) = 17) := of_decide_eq_false c_454
                                    refine ml_blk 2 (S' := (460, [(0, .ref m0), (1, .int i20_1), (2, .int (f1 f pp)), (5, .int i437_5)], [.int 18, .int (f1 f pp), .int i437_5], M_437)) rfl ?_
                                    refine ml_if2 (S1 := (467, [(0, .ref m0), (1, .int i20_1), (2, .int (f1 f pp)), (5, .int i437_5)], [.int i437_5], M_437)) (S2 := (463, [(0, .ref m0), (1, .int i20_1), (2, .int (f1 f pp)), (5, .int i437_5)], [.int i437_5], M_437)) rfl rfl rfl (fun c_460 => ?_) (fun c_460 => ?_)
                                    · have c_460 : ¬ (f1 f pp) = 18 := of_decide_eq_true c_460
                                      refine ml_st (S' := (468, [(0, .ref m0), (1, .int i20_1), (2, .int (f1 f pp)), (5, .int i437_5)], [.int 1, .int i437_5], M_437)) rfl rfl rfl ?_
                                      exact J_468 1 (Or.inr ⟨rfl, esz3 hgt hj_451 c_300 c_454 c_460 ⟨c_350, c_355⟩ ⟨c_385, c_391⟩⟩)
                                    · have c_460 : ¬ (¬ (f1 f pp) = 18) := of_decide_eq_false c_460
                                      exact J_463 
                                refine ml_if2 (S1 := (451, [(0, .ref m0), (1, .int i20_1), (2, .int (f1 f pp)), (5, .int i437_5)], [.int i437_5], M_437)) (S2 := (445, [(0, .ref m0), (1, .int i20_1), (2, .int (f1 f pp)), (5, .int i437_5)], [.int i437_5], M_437)) rfl rfl rfl (fun c_442 => ?_) (fun c_442 => ?_)
                                · have c_442 : (f1 f pp) < 9 := of_decide_eq_true c_442
                                  exact J_451  (Or.inl c_442)
                                · have c_442 : ¬ ((f1 f pp) < 9) := of_decide_eq_false c_442
                                  refine ml_blk 2 (S' := (448, [(0, .ref m0), (1, .int i20_1), (2, .int (f1 f pp)), (5, .int i437_5)], [.int 12, .int (f1 f pp), .int i437_5], M_437)) rfl ?_
                                  refine ml_if2 (S1 := (463, [(0, .ref m0), (1, .int i20_1), (2, .int (f1 f pp)), (5, .int i437_5)], [.int i437_5], M_437)) (S2 := (451, [(0, .ref m0), (1, .int i20_1), (2, .int (f1 f pp)), (5, .int i437_5)], [.int i437_5], M_437)) rfl rfl rfl (fun c_448 => ?_) (fun c_448 => ?_)
                                  · have c_448 : (f1 f pp) ≤ 12 := of_decide_eq_true c_448
                                    exact J_463 
                                  · have c_448 : ¬ ((f1 f pp) ≤ 12) := of_decide_eq_false c_448
                                    exact J_451  (Or.inr (Int32.not_le.mp c_448))
                            exact L_437 _ 0 (pp + 1) _ _ _ (Nat.le_refl _) hR58 eqI.rf eqR.rf (⟨e59, by decide, by decide, by show _ = pp.toInt + 1 + 2 * 0; omega, by omega⟩)
                          · have c_391 : ¬ (¬ (f1 f pp) = 6) := of_decide_eq_false c_391
                            exact J_394  (Or.inr (Decidable.not_not.mp c_391))
                      · have c_355 : ¬ (¬ (f1 f pp) = 4) := of_decide_eq_false c_355
                        exact J_358  (Or.inr (Decidable.not_not.mp c_355))
                  · have c_300 : ¬ (¬ (f1 f pp) = 15) := of_decide_eq_false c_300
                    refine ml_blk 2 (S' := (305, [(0, .ref m0), (1, .int i20_1), (2, .int (f1 f pp))], [.long 1, .ref m0], M56)) rfl ?_
                    have hF122 : FK n f I57 R51 := (((hF40.mono (fun _ _ => rfl) (pRx f49 (by decide))).mono (fun _ _ => rfl) (pRx f55 (by decide))).mono (pIx f60 (by decide)) (fun _ _ => rfl))
                    refine ml_call (a := [.ref m0, .long 1]) (rest := []) rfl (hR58.okc rfl rfl rfl) rfl rfl (rm_item hR58 (e59) hF122 (by omega) (by omega) (by decide) (by decide) (by omega)) (fun v123 M124 h125 => ?_)
                    obtain ⟨u131, I126, R127, rfl, hR128, hI129, hV130, z132, w133⟩ := h125
                    show ml _ _ _ (308, [(0, .ref m0), (1, .int i20_1), (2, .int (f1 f pp))], [.int u131], M124) _
                    refine ml_if (S1 := (313, [(0, .ref m0), (1, .int i20_1), (2, .int (f1 f pp))], [], M124)) (S2 := (311, [(0, .ref m0), (1, .int i20_1), (2, .int (f1 f pp))], [], M124)) rfl rfl rfl (fun c_308 => ?_) (fun c_308 => ?_)
                    · have c_308 : ¬ u131 = 0 := of_decide_eq_true c_308
                      have hb := w133.resolve_left c_308
                      have hp3 : (pp + 1 + 1).toInt = pp.toInt + 2 := by rw [i_add (by have : (1 : Int32).toInt = 1 := rfl; omega) (by have : (1 : Int32).toInt = 1 := rfl; omega), hp1]; have : (1 : Int32).toInt = 1 := rfl; omega
                      refine ml_blk 2 (S' := (315, [(0, .ref m0), (1, .int i20_1), (2, .int (f1 f pp))], [.ref m0, .ref m0], M124)) rfl ?_
                      refine rg_int (S' := (318, [(0, .ref m0), (1, .int i20_1), (2, .int (f1 f pp))], [.int (pp + 1), .ref m0], M124)) rfl hR128 rfl ((hI129 50 (by decide)).trans (e59)) rfl ?_
                      refine ml_blk 2 (S' := (320, [(0, .ref m0), (1, .int i20_1), (2, .int (f1 f pp))], [.int ((pp + 1) + 1), .ref m0], M124)) rfl ?_
                      refine rp_int rfl hR128 rfl (fun M134 I135 hR136 e137 f138 => ?_)
                      show ml _ _ _ (323, [(0, .ref m0), (1, .int i20_1), (2, .int (f1 f pp))], [], M134) _
                      refine ml_blk 2 (S' := (327, [(0, .ref m0), (1, .int i20_1), (2, .int (f1 f pp))], [.long 2, .ref m0], M134)) rfl ?_
                      have hF139 : FK n f I135 R127 := ((hF122.mono (cIx hI129 (by decide)) (cRx hV130 (by decide))).mono (pIx f138 (by decide)) (fun _ _ => rfl))
                      refine ml_call (a := [.ref m0, .long 2]) (rest := []) rfl (hR136.okc rfl rfl rfl) rfl rfl (rm_item hR136 (e137) hF139 (by omega) (by omega) (by decide) (by decide) (by omega)) (fun v140 M141 h142 => ?_)
                      obtain ⟨u148, I143, R144, rfl, hR145, hI146, hV147, z149, w150⟩ := h142
                      show ml _ _ _ (330, [(0, .ref m0), (1, .int i20_1), (2, .int (f1 f pp))], [.int u148], M141) _
                      refine ml_if (S1 := (335, [(0, .ref m0), (1, .int i20_1), (2, .int (f1 f pp))], [], M141)) (S2 := (333, [(0, .ref m0), (1, .int i20_1), (2, .int (f1 f pp))], [], M141)) rfl rfl rfl (fun c_330 => ?_) (fun c_330 => ?_)
                      · have c_330 : ¬ u148 = 0 := of_decide_eq_true c_330
                        have hc := w150.resolve_left c_330
                        have hp5 : (pp + 1 + 1 + 2).toInt = pp.toInt + 4 := by rw [i_add (by have : (2 : Int32).toInt = 2 := rfl; omega) (by have : (2 : Int32).toInt = 2 := rfl; omega), hp3]; have : (2 : Int32).toInt = 2 := rfl; omega
                        refine ml_blk 2 (S' := (337, [(0, .ref m0), (1, .int i20_1), (2, .int (f1 f pp))], [.ref m0, .ref m0], M141)) rfl ?_
                        refine rg_int (S' := (340, [(0, .ref m0), (1, .int i20_1), (2, .int (f1 f pp))], [.int ((pp + 1) + 1), .ref m0], M141)) rfl hR145 rfl ((hI146 50 (by decide)).trans (e137)) rfl ?_
                        refine ml_blk 2 (S' := (342, [(0, .ref m0), (1, .int i20_1), (2, .int (f1 f pp))], [.int (((pp + 1) + 1) + 2), .ref m0], M141)) rfl ?_
                        refine rp_int rfl hR145 rfl (fun M151 I152 hR153 e154 f155 => ?_)
                        show ml _ _ _ (345, [(0, .ref m0), (1, .int i20_1), (2, .int (f1 f pp))], [], M151) _
                        refine ml_st (S' := (499, [(0, .ref m0), (1, .int i20_1), (2, .int (f1 f pp))], [], M151)) rfl rfl rfl ?_
                        have hZ156 : SYM Sx Cx I152 R144 := ((((((((hz20.mono (cIx hI35 (by decide)) (cRx hV36 (by decide))).mono (fun _ _ => rfl) (pRx f49 (by decide))).mono (fun _ _ => rfl) (pRx f55 (by decide))).mono (pIx f60 (by decide)) (fun _ _ => rfl)).mono (cIx hI129 (by decide)) (cRx hV130 (by decide))).mono (pIx f138 (by decide)) (fun _ _ => rfl)).mono (cIx hI146 (by decide)) (cRx hV147 (by decide))).mono (pIx f155 (by decide)) (fun _ _ => rfl))
                        exact J_499  _ _ _ hR153 ((((eqI.rf.tr hI129 (by decide)).put f138 (by decide)).tr hI146 (by decide)).put f155 (by decide)) ((eqR.rf.tr hV130 (by decide)).tr hV147 (by decide)) (⟨_, Sx, Cx, e154, by rw [hp5, show esz (f1 f pp) = 4 by rw [Decidable.not_not.mp c_300]; rfl]; omega, by rw [hp5]; omega, hZ156, Nat.le_refl _, by rw [hp5]; omega, by rw [hp5]; omega, fun e => absurd e c_215, fun b _ => congrFun ((hV147 22 (by decide)).trans (hV130 22 (by decide))) b⟩)
                      · have c_330 : ¬ (¬ u148 = 0) := of_decide_eq_false c_330
                        refine ml_st (S' := (334, [(0, .ref m0), (1, .int i20_1), (2, .int (f1 f pp))], [.int 0], M141)) rfl rfl rfl ?_
                        exact ml_ret rfl (r_z (Or.inl rfl)) (⟨_, _, _, rfl, hR145, (((((((eqI.rf.put f15 (by decide)).tr hI_20 (by decide)).tr hI35 (by decide)).put f60 (by decide)).tr hI129 (by decide)).put f138 (by decide)).tr hI146 (by decide)), (((((((eqR.rf.put f21 (by decide)).tr hV_20 (by decide)).tr hV36 (by decide)).put f49 (by decide)).put f55 (by decide)).tr hV130 (by decide)).tr hV147 (by decide)), Or.inl rfl, Or.inl rfl⟩)
                    · have c_308 : ¬ (¬ u131 = 0) := of_decide_eq_false c_308
                      refine ml_st (S' := (312, [(0, .ref m0), (1, .int i20_1), (2, .int (f1 f pp))], [.int 0], M124)) rfl rfl rfl ?_
                      exact ml_ret rfl (r_z (Or.inl rfl)) (⟨_, _, _, rfl, hR128, (((((eqI.rf.put f15 (by decide)).tr hI_20 (by decide)).tr hI35 (by decide)).put f60 (by decide)).tr hI129 (by decide)), ((((((eqR.rf.put f21 (by decide)).tr hV_20 (by decide)).tr hV36 (by decide)).put f49 (by decide)).put f55 (by decide)).tr hV130 (by decide)), Or.inl rfl, Or.inl rfl⟩)
                · have c_215 : ¬ (¬ (f1 f pp) = 1) := of_decide_eq_false c_215
                  refine ml_blk 2 (S' := (222, [(0, .ref m0), (1, .int i20_1), (2, .int (f1 f pp))], [.long 2, .ref m0], M56)) rfl ?_
                  have hF157 : FK n f I57 R51 := (((hF40.mono (fun _ _ => rfl) (pRx f49 (by decide))).mono (fun _ _ => rfl) (pRx f55 (by decide))).mono (pIx f60 (by decide)) (fun _ _ => rfl))
                  refine ml_call (a := [.ref m0, .long 2]) (rest := []) rfl (hR58.okc rfl rfl rfl) rfl rfl (rm_item hR58 (e59) hF157 (by omega) (by omega) (by decide) (by decide) (by omega)) (fun v158 M159 h160 => ?_)
                  obtain ⟨u166, I161, R162, rfl, hR163, hI164, hV165, z167, w168⟩ := h160
                  show ml _ _ _ (225, [(0, .ref m0), (1, .int i20_1), (2, .int (f1 f pp))], [.int u166], M159) _
                  refine ml_if (S1 := (230, [(0, .ref m0), (1, .int i20_1), (2, .int (f1 f pp))], [], M159)) (S2 := (228, [(0, .ref m0), (1, .int i20_1), (2, .int (f1 f pp))], [], M159)) rfl rfl rfl (fun c_225 => ?_) (fun c_225 => ?_)
                  · have c_225 : ¬ u166 = 0 := of_decide_eq_true c_225
                    have hb := w168.resolve_left c_225
                    have hp3 : (pp + 1 + 2).toInt = pp.toInt + 3 := by rw [i_add (by have : (2 : Int32).toInt = 2 := rfl; omega) (by have : (2 : Int32).toInt = 2 := rfl; omega), hp1]; have : (2 : Int32).toInt = 2 := rfl; omega
                    refine ml_blk 2 (S' := (232, [(0, .ref m0), (1, .int i20_1), (2, .int (f1 f pp))], [.ref m0, .ref m0], M159)) rfl ?_
                    refine rg_int (S' := (235, [(0, .ref m0), (1, .int i20_1), (2, .int (f1 f pp))], [.int (pp + 1), .ref m0], M159)) rfl hR163 rfl ((hI164 50 (by decide)).trans (e59)) rfl ?_
                    have hF169 : FK n f I161 R162 := (hF157.mono (cIx hI164 (by decide)) (cRx hV165 (by decide)))
                    refine ml_call (a := [.ref m0, .int (pp + 1)]) (rest := []) rfl (hR163.okc rfl rfl rfl) rfl rfl (rm_u2 hR163 hF169 (by omega) (by omega) (by omega)) (fun v170 M171 h172 => ?_)
                    obtain ⟨rfl, h172⟩ := h172
                    rw [h172]
                    show ml _ _ _ (238, [(0, .ref m0), (1, .int i20_1), (2, .int (f1 f pp))], [.int (f2 f (pp + 1))], M159) _
                    refine ml_st (S' := (240, [(5, .int (f2 f (pp + 1))), (0, .ref m0), (1, .int i20_1), (2, .int (f1 f pp))], [], M159)) rfl rfl rfl ?_
                    refine ml_blk 2 (S' := (242, [(5, .int (f2 f (pp + 1))), (0, .ref m0), (1, .int i20_1), (2, .int (f1 f pp))], [.ref m0, .ref m0], M159)) rfl ?_
                    refine rg_int (S' := (245, [(5, .int (f2 f (pp + 1))), (0, .ref m0), (1, .int i20_1), (2, .int (f1 f pp))], [.int (pp + 1), .ref m0], M159)) rfl hR163 rfl ((hI164 50 (by decide)).trans (e59)) rfl ?_
                    refine ml_blk 2 (S' := (247, [(5, .int (f2 f (pp + 1))), (0, .ref m0), (1, .int i20_1), (2, .int (f1 f pp))], [.int ((pp + 1) + 2), .ref m0], M159)) rfl ?_
                    refine rp_int rfl hR163 rfl (fun M173 I174 hR175 e176 f177 => ?_)
                    show ml _ _ _ (250, [(5, .int (f2 f (pp + 1))), (0, .ref m0), (1, .int i20_1), (2, .int (f1 f pp))], [], M173) _
                    refine ml_blk 3 (S' := (254, [(5, .int (f2 f (pp + 1))), (0, .ref m0), (1, .int i20_1), (2, .int (f1 f pp))], [.long (Int32.toInt64 (f2 f (pp + 1))), .ref m0], M173)) rfl ?_
                    have hF178 : FK n f I174 R162 := (hF169.mono (pIx f177 (by decide)) (fun _ _ => rfl))
                    refine ml_call (a := [.ref m0, .long (Int32.toInt64 (f2 f (pp + 1)))]) (rest := []) rfl (hR175.okc rfl rfl rfl) rfl rfl (rm_item hR175 (e176) hF178 (by omega) (by omega) (by rw [l_of]; exact f2_pos) (by rw [l_of]; have := f2_le (f := f) (x := pp + 1); omega) (by omega)) (fun v179 M180 h181 => ?_)
                    obtain ⟨u187, I182, R183, rfl, hR184, hI185, hV186, z188, w189⟩ := h181
                    show ml _ _ _ (257, [(5, .int (f2 f (pp + 1))), (0, .ref m0), (1, .int i20_1), (2, .int (f1 f pp))], [.int u187], M180) _
                    refine ml_if (S1 := (262, [(5, .int (f2 f (pp + 1))), (0, .ref m0), (1, .int i20_1), (2, .int (f1 f pp))], [], M180)) (S2 := (260, [(5, .int (f2 f (pp + 1))), (0, .ref m0), (1, .int i20_1), (2, .int (f1 f pp))], [], M180)) rfl rfl rfl (fun c_257 => ?_) (fun c_257 => ?_)
                    · have c_257 : ¬ u187 = 0 := of_decide_eq_true c_257
                      have hc := w189.resolve_left c_257
                      rw [l_of] at hc
                      have hl0 := f2_pos (f := f) (x := pp + 1)
                      have hl1 := f2_le (f := f) (x := pp + 1)
                      refine ml_blk 2 (S' := (264, [(5, .int (f2 f (pp + 1))), (0, .ref m0), (1, .int i20_1), (2, .int (f1 f pp))], [.ref m0, .ref m0], M180)) rfl ?_
                      refine rg_int (S' := (267, [(5, .int (f2 f (pp + 1))), (0, .ref m0), (1, .int i20_1), (2, .int (f1 f pp))], [.int 0, .ref m0], M180)) rfl hR184 rfl ((hI185 51 (by decide)).trans ((f177 51 (by decide)).trans ((hI164 51 (by decide)).trans ((f60 51 (by decide)).trans ((hI35 51 (by decide)).trans ((hI_20 51 (by decide)).trans (e14))))))) rfl ?_
                      refine ml_blk 3 (S' := (270, [(5, .int (f2 f (pp + 1))), (0, .ref m0), (1, .int i20_1), (2, .int (f1 f pp))], [.ref m0, .int (0 + i20_1), .ref m0], M180)) rfl ?_
                      refine rg_int (S' := (273, [(5, .int (f2 f (pp + 1))), (0, .ref m0), (1, .int i20_1), (2, .int (f1 f pp))], [.int ((pp + 1) + 2), .int (0 + i20_1), .ref m0], M180)) rfl hR184 rfl ((hI185 50 (by decide)).trans (e176)) rfl ?_
                      refine ml_st (S' := (275, [(5, .int (f2 f (pp + 1))), (0, .ref m0), (1, .int i20_1), (2, .int (f1 f pp))], [.int (f2 f (pp + 1)), .int ((pp + 1) + 2), .int (0 + i20_1), .ref m0], M180)) rfl rfl rfl ?_
                      have hF190 : FK n f I182 R183 := (hF178.mono (cIx hI185 (by decide)) (cRx hV186 (by decide)))
                      have hZ191 : SYM Sx Cx I182 R183 := (((((((hz20.mono (cIx hI35 (by decide)) (cRx hV36 (by decide))).mono (fun _ _ => rfl) (pRx f49 (by decide))).mono (fun _ _ => rfl) (pRx f55 (by decide))).mono (pIx f60 (by decide)) (fun _ _ => rfl)).mono (cIx hI164 (by decide)) (cRx hV165 (by decide))).mono (pIx f177 (by decide)) (fun _ _ => rfl)).mono (cIx hI185 (by decide)) (cRx hV186 (by decide)))
                      refine ml_call (a := [.ref m0, .int (0 + i20_1), .int ((pp + 1) + 2), .int (f2 f (pp + 1))]) (rest := []) rfl (hR184.okc rfl rfl rfl) rfl rfl (rm_utf8 hR184 hF190 hZ191 (by rw [z_add]; omega) (by rw [z_add]; omega) (by omega) (f2_pos) (by omega) (by omega) (by omega) (by omega)) (fun v192 M193 h194 => ?_)
                      obtain ⟨u200, I195, R196, rfl, hR197, hI198, hV199, z201, w202⟩ := h194
                      show ml _ _ _ (278, [(5, .int (f2 f (pp + 1))), (0, .ref m0), (1, .int i20_1), (2, .int (f1 f pp))], [.int u200], M193) _
                      refine ml_if (S1 := (283, [(5, .int (f2 f (pp + 1))), (0, .ref m0), (1, .int i20_1), (2, .int (f1 f pp))], [], M193)) (S2 := (281, [(5, .int (f2 f (pp + 1))), (0, .ref m0), (1, .int i20_1), (2, .int (f1 f pp))], [], M193)) rfl rfl rfl (fun c_278 => ?_) (fun c_278 => ?_)
                      · have c_278 : ¬ u200 = 0 := of_decide_eq_true c_278
                        obtain ⟨S9, c9, hz9, hs0, hs1, hc1, ⟨sy9, hsy, hsy0, hsy1⟩, hoth⟩ := w202.resolve_left c_278
                        rw [z_nat] at hsy hoth
                        have hp5 : (pp + 1 + 2 + (f2 f (pp + 1))).toInt = pp.toInt + 3 + (f2 f (pp + 1)).toInt := by rw [i_add (by omega) (by omega), hp3]
                        refine ml_blk 2 (S' := (285, [(5, .int (f2 f (pp + 1))), (0, .ref m0), (1, .int i20_1), (2, .int (f1 f pp))], [.ref m0, .ref m0], M193)) rfl ?_
                        refine rg_int (S' := (288, [(5, .int (f2 f (pp + 1))), (0, .ref m0), (1, .int i20_1), (2, .int (f1 f pp))], [.int ((pp + 1) + 2), .ref m0], M193)) rfl hR197 rfl ((hI198 50 (by decide)).trans ((hI185 50 (by decide)).trans (e176))) rfl ?_
                        refine ml_blk 2 (S' := (291, [(5, .int (f2 f (pp + 1))), (0, .ref m0), (1, .int i20_1), (2, .int (f1 f pp))], [.int (((pp + 1) + 2) + (f2 f (pp + 1))), .ref m0], M193)) rfl ?_
                        refine rp_int rfl hR197 rfl (fun M203 I204 hR205 e206 f207 => ?_)
                        show ml _ _ _ (294, [(5, .int (f2 f (pp + 1))), (0, .ref m0), (1, .int i20_1), (2, .int (f1 f pp))], [], M203) _
                        refine ml_st (S' := (499, [(0, .ref m0), (1, .int i20_1), (2, .int (f1 f pp))], [], M203)) rfl rfl rfl ?_
                        have hZ208 : SYM S9 c9 I204 R196 := (hz9.mono (pIx f207 (by decide)) (fun _ _ => rfl))
                        exact J_499  _ _ _ hR205 (((((eqI.rf.tr hI164 (by decide)).put f177 (by decide)).tr hI185 (by decide)).tr hI198 (by decide)).put f207 (by decide)) (((eqR.rf.tr hV165 (by decide)).tr hV186 (by decide)).tr hV199 (by decide)) (⟨_, S9, c9, e206, by rw [hp5, show esz (f1 f pp) = 3 by rw [Decidable.not_not.mp c_215]; rfl]; omega, by rw [hp5]; omega, hZ208, hs0, by rw [hp5]; omega, by rw [hp5]; omega, fun _ => ⟨sy9, hsy, hsy0, hsy1⟩, fun b hb => (hoth b hb).trans (congrFun ((hV186 22 (by decide)).trans (hV165 22 (by decide))) b)⟩)
                      · have c_278 : ¬ (¬ u200 = 0) := of_decide_eq_false c_278
                        refine ml_st (S' := (282, [(5, .int (f2 f (pp + 1))), (0, .ref m0), (1, .int i20_1), (2, .int (f1 f pp))], [.int 0], M193)) rfl rfl rfl ?_
                        exact ml_ret rfl (r_z (Or.inl rfl)) (⟨_, _, _, rfl, hR197, ((((((((eqI.rf.put f15 (by decide)).tr hI_20 (by decide)).tr hI35 (by decide)).put f60 (by decide)).tr hI164 (by decide)).put f177 (by decide)).tr hI185 (by decide)).tr hI198 (by decide)), ((((((((eqR.rf.put f21 (by decide)).tr hV_20 (by decide)).tr hV36 (by decide)).put f49 (by decide)).put f55 (by decide)).tr hV165 (by decide)).tr hV186 (by decide)).tr hV199 (by decide)), Or.inl rfl, Or.inl rfl⟩)
                    · have c_257 : ¬ (¬ u187 = 0) := of_decide_eq_false c_257
                      refine ml_st (S' := (261, [(5, .int (f2 f (pp + 1))), (0, .ref m0), (1, .int i20_1), (2, .int (f1 f pp))], [.int 0], M180)) rfl rfl rfl ?_
                      exact ml_ret rfl (r_z (Or.inl rfl)) (⟨_, _, _, rfl, hR184, (((((((eqI.rf.put f15 (by decide)).tr hI_20 (by decide)).tr hI35 (by decide)).put f60 (by decide)).tr hI164 (by decide)).put f177 (by decide)).tr hI185 (by decide)), (((((((eqR.rf.put f21 (by decide)).tr hV_20 (by decide)).tr hV36 (by decide)).put f49 (by decide)).put f55 (by decide)).tr hV165 (by decide)).tr hV186 (by decide)), Or.inl rfl, Or.inl rfl⟩)
                  · have c_225 : ¬ (¬ u166 = 0) := of_decide_eq_false c_225
                    refine ml_st (S' := (229, [(0, .ref m0), (1, .int i20_1), (2, .int (f1 f pp))], [.int 0], M159)) rfl rfl rfl ?_
                    exact ml_ret rfl (r_z (Or.inl rfl)) (⟨_, _, _, rfl, hR163, (((((eqI.rf.put f15 (by decide)).tr hI_20 (by decide)).tr hI35 (by decide)).put f60 (by decide)).tr hI164 (by decide)), ((((((eqR.rf.put f21 (by decide)).tr hV_20 (by decide)).tr hV36 (by decide)).put f49 (by decide)).put f55 (by decide)).tr hV165 (by decide)), Or.inl rfl, Or.inl rfl⟩)
              have J_185 : ml (mT g) d (mb_238 g).2 (185, [(0, .ref m0), (1, .int i20_1), (2, .int (f1 f pp)), (3, .int pp)], [], M50) (fun v M' => ∃ (x : Int32) (I' : rI) (R' : rR), v = some (.int x) ∧ RS g m0 q z I' R' M' ∧ eqI [3, 8, 20, 47, 48, 50, 51] I I' ∧ eqR [1, 2, 4, 5, 6, 7, 21, 22] R R' ∧ (x = 0 ∨ x = 1) ∧ (x = 0 ∨ ∃ (S' cN' : Nat) (p1 : Int32), SYM S' cN' I' R' ∧ I' 50 = some p1 ∧ p0.toInt ≤ p1.toInt ∧ p1.toInt ≤ n ∧ I' 51 = some 0 ∧ PEN f n S' cp.toInt.toNat R')) := by
                refine ml_blk 3 (S' := (188, [(0, .ref m0), (1, .int i20_1), (2, .int (f1 f pp)), (3, .int pp)], [.int (i20_1 + 1)], M50)) rfl ?_
                refine ml_st (S' := (189, [(0, .ref m0), (1, .int i20_1), (2, .int (f1 f pp)), (3, .int pp)], [.ref m0, .int (i20_1 + 1)], M50)) rfl rfl rfl ?_
                refine rg_int (S' := (192, [(0, .ref m0), (1, .int i20_1), (2, .int (f1 f pp)), (3, .int pp)], [.int cp, .int (i20_1 + 1)], M50)) rfl hR52 rfl ((hI35 52 (by decide)).trans ((hI_20 52 (by decide)).trans ((f15 52 (by decide)).trans (hk52)))) rfl ?_
                refine ml_if2 (S1 := (203, [(0, .ref m0), (1, .int i20_1), (2, .int (f1 f pp))], [], M50)) (S2 := (195, [(0, .ref m0), (1, .int i20_1), (2, .int (f1 f pp)), (3, .int pp)], [], M50)) rfl rfl rfl (fun c_192 => ?_) (fun c_192 => ?_)
                · have c_192 : (i20_1 + 1) < cp := of_decide_eq_true c_192
                  exact J_203  (fun _ => by have q := i_lt c_192; omega)
                · have c_192 : ¬ ((i20_1 + 1) < cp) := of_decide_eq_false c_192
                  refine ml_blk 3 (S' := (199, [(0, .ref m0), (1, .int i20_1), (2, .int (f1 f pp)), (3, .int pp)], [.int pp, .int 7, .ref m0], M50)) rfl ?_
                  refine ml_call (a := [.ref m0, .int 7, .int pp]) (rest := []) rfl (hR52.okc rfl rfl rfl) rfl rfl (rm_wrong hR52 (by omega)) (fun v209 M210 h211 => ?_)
                  obtain ⟨u217, I212, R213, rfl, hR214, hI215, hV216, z218, w219⟩ := h211
                  show ml _ _ _ (202, [(0, .ref m0), (1, .int i20_1), (2, .int (f1 f pp)), (3, .int pp)], [.int u217], M210) _
                  exact ml_ret rfl (r_z (z218)) (⟨_, _, _, rfl, hR214, ((((eqI.rf.put f15 (by decide)).tr hI_20 (by decide)).tr hI35 (by decide)).tr hI215 (by decide)), ((((((eqR.rf.put f21 (by decide)).tr hV_20 (by decide)).tr hV36 (by decide)).put f49 (by decide)).put f55 (by decide)).tr hV216 (by decide)), z218, Or.inl w219⟩)
              refine ml_if2 (S1 := (185, [(0, .ref m0), (1, .int i20_1), (2, .int (f1 f pp)), (3, .int pp)], [], M50)) (S2 := (179, [(4, .int s160_0), (0, .ref m0), (1, .int i20_1), (2, .int (f1 f pp)), (3, .int pp)], [], M50)) rfl rfl rfl (fun c_176 => ?_) (fun c_176 => ?_)
              · have c_176 : (f1 f pp) = 5 := of_decide_eq_true c_176
                exact J_185 
              · have c_176 : ¬ ((f1 f pp) = 5) := of_decide_eq_false c_176
                refine ml_blk 2 (S' := (182, [(4, .int s160_0), (0, .ref m0), (1, .int i20_1), (2, .int (f1 f pp)), (3, .int pp)], [.int 6, .int (f1 f pp)], M50)) rfl ?_
                refine ml_if2 (S1 := (203, [(0, .ref m0), (1, .int i20_1), (2, .int (f1 f pp))], [], M50)) (S2 := (185, [(0, .ref m0), (1, .int i20_1), (2, .int (f1 f pp)), (3, .int pp)], [], M50)) rfl rfl rfl (fun c_182 => ?_) (fun c_182 => ?_)
                · have c_182 : ¬ (f1 f pp) = 6 := of_decide_eq_true c_182
                  exact J_203  (fun h => (h.elim c_176 c_182).elim)
                · have c_182 : ¬ (¬ (f1 f pp) = 6) := of_decide_eq_false c_182
                  exact J_185 
            · have c_164 : ¬ (¬ s160_0 = 0) := of_decide_eq_false c_164
              refine ml_blk 3 (S' := (170, [(4, .int s160_0), (0, .ref m0), (1, .int i20_1), (2, .int (f1 f pp)), (3, .int pp)], [.int pp, .int 5, .ref m0], M50)) rfl ?_
              refine ml_call (a := [.ref m0, .int 5, .int pp]) (rest := []) rfl (hR52.okc rfl rfl rfl) rfl rfl (rm_wrong hR52 (by omega)) (fun v220 M221 h222 => ?_)
              obtain ⟨u228, I223, R224, rfl, hR225, hI226, hV227, z229, w230⟩ := h222
              show ml _ _ _ (173, [(4, .int s160_0), (0, .ref m0), (1, .int i20_1), (2, .int (f1 f pp)), (3, .int pp)], [.int u228], M221) _
              exact ml_ret rfl (r_z (z229)) (⟨_, _, _, rfl, hR225, ((((eqI.rf.put f15 (by decide)).tr hI_20 (by decide)).tr hI35 (by decide)).tr hI226 (by decide)), ((((((eqR.rf.put f21 (by decide)).tr hV_20 (by decide)).tr hV36 (by decide)).put f49 (by decide)).put f55 (by decide)).tr hV227 (by decide)), z229, Or.inl w230⟩)
          have J_155 : GT (f1 f pp) → ml (mT g) d (mb_238 g).2 (155, [(0, .ref m0), (1, .int i20_1), (2, .int (f1 f pp)), (3, .int pp)], [], M50) (fun v M' => ∃ (x : Int32) (I' : rI) (R' : rR), v = some (.int x) ∧ RS g m0 q z I' R' M' ∧ eqI [3, 8, 20, 47, 48, 50, 51] I I' ∧ eqR [1, 2, 4, 5, 6, 7, 21, 22] R R' ∧ (x = 0 ∨ x = 1) ∧ (x = 0 ∨ ∃ (S' cN' : Nat) (p1 : Int32), SYM S' cN' I' R' ∧ I' 50 = some p1 ∧ p0.toInt ≤ p1.toInt ∧ p1.toInt ≤ n ∧ I' 51 = some 0 ∧ PEN f n S' cp.toInt.toNat R')) := by
            intro hj_155
            refine ml_st (S' := (156, [(0, .ref m0), (1, .int i20_1), (2, .int (f1 f pp)), (3, .int pp)], [.int 1], M50)) rfl rfl rfl ?_
            refine ml_st (S' := (160, [(0, .ref m0), (1, .int i20_1), (2, .int (f1 f pp)), (3, .int pp)], [.int 1], M50)) rfl rfl rfl ?_
            exact J_160 1 (Or.inr hj_155)
          refine ml_if2 (S1 := (155, [(0, .ref m0), (1, .int i20_1), (2, .int (f1 f pp)), (3, .int pp)], [], M50)) (S2 := (81, [(3, .int pp), (2, .int (f1 f pp)), (0, .ref m0), (1, .int i20_1)], [], M50)) rfl rfl rfl (fun c_78 => ?_) (fun c_78 => ?_)
          · have c_78 : (f1 f pp) = 1 := of_decide_eq_true c_78
            exact J_155  (Or.inl c_78)
          · have c_78 : ¬ ((f1 f pp) = 1) := of_decide_eq_false c_78
            refine ml_blk 2 (S' := (83, [(3, .int pp), (2, .int (f1 f pp)), (0, .ref m0), (1, .int i20_1)], [.int 3, .int (f1 f pp)], M50)) rfl ?_
            have J_92 : ml (mT g) d (mb_238 g).2 (92, [(0, .ref m0), (1, .int i20_1), (2, .int (f1 f pp)), (3, .int pp)], [], M50) (fun v M' => ∃ (x : Int32) (I' : rI) (R' : rR), v = some (.int x) ∧ RS g m0 q z I' R' M' ∧ eqI [3, 8, 20, 47, 48, 50, 51] I I' ∧ eqR [1, 2, 4, 5, 6, 7, 21, 22] R R' ∧ (x = 0 ∨ x = 1) ∧ (x = 0 ∨ ∃ (S' cN' : Nat) (p1 : Int32), SYM S' cN' I' R' ∧ I' 50 = some p1 ∧ p0.toInt ≤ p1.toInt ∧ p1.toInt ≤ n ∧ I' 51 = some 0 ∧ PEN f n S' cp.toInt.toNat R')) := by
              refine ml_blk 2 (S' := (95, [(0, .ref m0), (1, .int i20_1), (2, .int (f1 f pp)), (3, .int pp)], [.int 15, .int (f1 f pp)], M50)) rfl ?_
              have J_119 : ml (mT g) d (mb_238 g).2 (119, [(0, .ref m0), (1, .int i20_1), (2, .int (f1 f pp)), (3, .int pp)], [], M50) (fun v M' => ∃ (x : Int32) (I' : rI) (R' : rR), v = some (.int x) ∧ RS g m0 q z I' R' M' ∧ eqI [3, 8, 20, 47, 48, 50, 51] I I' ∧ eqR [1, 2, 4, 5, 6, 7, 21, 22] R R' ∧ (x = 0 ∨ x = 1) ∧ (x = 0 ∨ ∃ (S' cN' : Nat) (p1 : Int32), SYM S' cN' I' R' ∧ I' 50 = some p1 ∧ p0.toInt ≤ p1.toInt ∧ p1.toInt ≤ n ∧ I' 51 = some 0 ∧ PEN f n S' cp.toInt.toNat R')) := by
                refine ml_blk 2 (S' := (122, [(0, .ref m0), (1, .int i20_1), (2, .int (f1 f pp)), (3, .int pp)], [.int 19, .int (f1 f pp)], M50)) rfl ?_
                have J_140 : ml (mT g) d (mb_238 g).2 (140, [(0, .ref m0), (1, .int i20_1), (2, .int (f1 f pp)), (3, .int pp)], [], M50) (fun v M' => ∃ (x : Int32) (I' : rI) (R' : rR), v = some (.int x) ∧ RS g m0 q z I' R' M' ∧ eqI [3, 8, 20, 47, 48, 50, 51] I I' ∧ eqR [1, 2, 4, 5, 6, 7, 21, 22] R R' ∧ (x = 0 ∨ x = 1) ∧ (x = 0 ∨ ∃ (S' cN' : Nat) (p1 : Int32), SYM S' cN' I' R' ∧ I' 50 = some p1 ∧ p0.toInt ≤ p1.toInt ∧ p1.toInt ≤ n ∧ I' 51 = some 0 ∧ PEN f n S' cp.toInt.toNat R')) := by
                  refine ml_blk 2 (S' := (143, [(0, .ref m0), (1, .int i20_1), (2, .int (f1 f pp)), (3, .int pp)], [.int 17, .int (f1 f pp)], M50)) rfl ?_
                  have J_159 : ml (mT g) d (mb_238 g).2 (159, [(0, .ref m0), (1, .int i20_1), (2, .int (f1 f pp)), (3, .int pp)], [], M50) (fun v M' => ∃ (x : Int32) (I' : rI) (R' : rR), v = some (.int x) ∧ RS g m0 q z I' R' M' ∧ eqI [3, 8, 20, 47, 48, 50, 51] I I' ∧ eqR [1, 2, 4, 5, 6, 7, 21, 22] R R' ∧ (x = 0 ∨ x = 1) ∧ (x = 0 ∨ ∃ (S' cN' : Nat) (p1 : Int32), SYM S' cN' I' R' ∧ I' 50 = some p1 ∧ p0.toInt ≤ p1.toInt ∧ p1.toInt ≤ n ∧ I' 51 = some 0 ∧ PEN f n S' cp.toInt.toNat R')) := by
                    refine ml_st (S' := (160, [(0, .ref m0), (1, .int i20_1), (2, .int (f1 f pp)), (3, .int pp)], [.int 0], M50)) rfl rfl rfl ?_
                    exact J_160 0 (Or.inl rfl)
                  refine ml_if2 (S1 := (159, [(0, .ref m0), (1, .int i20_1), (2, .int (f1 f pp)), (3, .int pp)], [], M50)) (S2 := (146, [(0, .ref m0), (1, .int i20_1), (2, .int (f1 f pp)), (3, .int pp)], [], M50)) rfl rfl rfl (fun c_143 => ?_) (fun c_143 => ?_)
                  · have c_143 : ¬ (f1 f pp) = 17 := of_decide_eq_true c_143
                    exact J_159 
                  · have c_143 : ¬ (¬ (f1 f pp) = 17) := of_decide_eq_false c_143
                    refine ml_st (S' := (147, [(0, .ref m0), (1, .int i20_1), (2, .int (f1 f pp)), (3, .int pp)], [.ref m0], M50)) rfl rfl rfl ?_
                    refine rg_int (S' := (150, [(0, .ref m0), (1, .int i20_1), (2, .int (f1 f pp)), (3, .int pp)], [.int mj], M50)) rfl hR52 rfl ((hI35 53 (by decide)).trans ((hI_20 53 (by decide)).trans ((f15 53 (by decide)).trans (hk53)))) rfl ?_
                    refine ml_st (S' := (152, [(0, .ref m0), (1, .int i20_1), (2, .int (f1 f pp)), (3, .int pp)], [.int 55, .int mj], M50)) rfl rfl rfl ?_
                    refine ml_if2 (S1 := (159, [(0, .ref m0), (1, .int i20_1), (2, .int (f1 f pp)), (3, .int pp)], [], M50)) (S2 := (155, [(0, .ref m0), (1, .int i20_1), (2, .int (f1 f pp)), (3, .int pp)], [], M50)) rfl rfl rfl (fun c_152 => ?_) (fun c_152 => ?_)
                    · have c_152 : mj < 55 := of_decide_eq_true c_152
                      exact J_159 
                    · have c_152 : ¬ (mj < 55) := of_decide_eq_false c_152
                      exact J_155  (Or.inr (Or.inr (Or.inr (Or.inr (Or.inl (Decidable.not_not.mp c_143))))))
                have J_131 : (f1 f pp = 19 ∨ f1 f pp = 20) → ml (mT g) d (mb_238 g).2 (131, [(0, .ref m0), (1, .int i20_1), (2, .int (f1 f pp)), (3, .int pp)], [], M50) (fun v M' => ∃ (x : Int32) (I' : rI) (R' : rR), v = some (.int x) ∧ RS g m0 q z I' R' M' ∧ eqI [3, 8, 20, 47, 48, 50, 51] I I' ∧ eqR [1, 2, 4, 5, 6, 7, 21, 22] R R' ∧ (x = 0 ∨ x = 1) ∧ (x = 0 ∨ ∃ (S' cN' : Nat) (p1 : Int32), SYM S' cN' I' R' ∧ I' 50 = some p1 ∧ p0.toInt ≤ p1.toInt ∧ p1.toInt ≤ n ∧ I' 51 = some 0 ∧ PEN f n S' cp.toInt.toNat R')) := by
                  intro hj_131
                  refine ml_st (S' := (132, [(0, .ref m0), (1, .int i20_1), (2, .int (f1 f pp)), (3, .int pp)], [.ref m0], M50)) rfl rfl rfl ?_
                  refine rg_int (S' := (135, [(0, .ref m0), (1, .int i20_1), (2, .int (f1 f pp)), (3, .int pp)], [.int mj], M50)) rfl hR52 rfl ((hI35 53 (by decide)).trans ((hI_20 53 (by decide)).trans ((f15 53 (by decide)).trans (hk53)))) rfl ?_
                  refine ml_st (S' := (137, [(0, .ref m0), (1, .int i20_1), (2, .int (f1 f pp)), (3, .int pp)], [.int 53, .int mj], M50)) rfl rfl rfl ?_
                  refine ml_if2 (S1 := (155, [(0, .ref m0), (1, .int i20_1), (2, .int (f1 f pp)), (3, .int pp)], [], M50)) (S2 := (140, [(0, .ref m0), (1, .int i20_1), (2, .int (f1 f pp)), (3, .int pp)], [], M50)) rfl rfl rfl (fun c_137 => ?_) (fun c_137 => ?_)
                  · have c_137 : 53 ≤ mj := of_decide_eq_true c_137
                    exact J_155  (Or.inr (Or.inr (Or.inr (Or.inr (Or.inr (Or.inr hj_131))))))
                  · have c_137 : ¬ (53 ≤ mj) := of_decide_eq_false c_137
                    exact J_140 
                refine ml_if2 (S1 := (131, [(0, .ref m0), (1, .int i20_1), (2, .int (f1 f pp)), (3, .int pp)], [], M50)) (S2 := (125, [(0, .ref m0), (1, .int i20_1), (2, .int (f1 f pp)), (3, .int pp)], [], M50)) rfl rfl rfl (fun c_122 => ?_) (fun c_122 => ?_)
                · have c_122 : (f1 f pp) = 19 := of_decide_eq_true c_122
                  exact J_131  (Or.inl c_122)
                · have c_122 : ¬ ((f1 f pp) = 19) := of_decide_eq_false c_122
                  refine ml_blk 2 (S' := (128, [(0, .ref m0), (1, .int i20_1), (2, .int (f1 f pp)), (3, .int pp)], [.int 20, .int (f1 f pp)], M50)) rfl ?_
                  refine ml_if2 (S1 := (140, [(0, .ref m0), (1, .int i20_1), (2, .int (f1 f pp)), (3, .int pp)], [], M50)) (S2 := (131, [(0, .ref m0), (1, .int i20_1), (2, .int (f1 f pp)), (3, .int pp)], [], M50)) rfl rfl rfl (fun c_128 => ?_) (fun c_128 => ?_)
                  · have c_128 : ¬ (f1 f pp) = 20 := of_decide_eq_true c_128
                    exact J_140 
                  · have c_128 : ¬ (¬ (f1 f pp) = 20) := of_decide_eq_false c_128
                    exact J_131  (Or.inr (Decidable.not_not.mp c_128))
              have J_110 : (f1 f pp = 15 ∨ f1 f pp = 16 ∨ f1 f pp = 18) → ml (mT g) d (mb_238 g).2 (110, [(0, .ref m0), (1, .int i20_1), (2, .int (f1 f pp)), (3, .int pp)], [], M50) (fun v M' => ∃ (x : Int32) (I' : rI) (R' : rR), v = some (.int x) ∧ RS g m0 q z I' R' M' ∧ eqI [3, 8, 20, 47, 48, 50, 51] I I' ∧ eqR [1, 2, 4, 5, 6, 7, 21, 22] R R' ∧ (x = 0 ∨ x = 1) ∧ (x = 0 ∨ ∃ (S' cN' : Nat) (p1 : Int32), SYM S' cN' I' R' ∧ I' 50 = some p1 ∧ p0.toInt ≤ p1.toInt ∧ p1.toInt ≤ n ∧ I' 51 = some 0 ∧ PEN f n S' cp.toInt.toNat R')) := by
                intro hj_110
                refine ml_st (S' := (111, [(0, .ref m0), (1, .int i20_1), (2, .int (f1 f pp)), (3, .int pp)], [.ref m0], M50)) rfl rfl rfl ?_
                refine rg_int (S' := (114, [(0, .ref m0), (1, .int i20_1), (2, .int (f1 f pp)), (3, .int pp)], [.int mj], M50)) rfl hR52 rfl ((hI35 53 (by decide)).trans ((hI_20 53 (by decide)).trans ((f15 53 (by decide)).trans (hk53)))) rfl ?_
                refine ml_st (S' := (116, [(0, .ref m0), (1, .int i20_1), (2, .int (f1 f pp)), (3, .int pp)], [.int 51, .int mj], M50)) rfl rfl rfl ?_
                refine ml_if2 (S1 := (155, [(0, .ref m0), (1, .int i20_1), (2, .int (f1 f pp)), (3, .int pp)], [], M50)) (S2 := (119, [(0, .ref m0), (1, .int i20_1), (2, .int (f1 f pp)), (3, .int pp)], [], M50)) rfl rfl rfl (fun c_116 => ?_) (fun c_116 => ?_)
                · have c_116 : 51 ≤ mj := of_decide_eq_true c_116
                  exact J_155  (Or.inr (Or.inr (by rcases hj_110 with h | h | h; exact Or.inl h; exact Or.inr (Or.inl h); exact Or.inr (Or.inr (Or.inr (Or.inl h))))))
                · have c_116 : ¬ (51 ≤ mj) := of_decide_eq_false c_116
                  exact J_119 
              refine ml_if2 (S1 := (110, [(0, .ref m0), (1, .int i20_1), (2, .int (f1 f pp)), (3, .int pp)], [], M50)) (S2 := (98, [(0, .ref m0), (1, .int i20_1), (2, .int (f1 f pp)), (3, .int pp)], [], M50)) rfl rfl rfl (fun c_95 => ?_) (fun c_95 => ?_)
              · have c_95 : (f1 f pp) = 15 := of_decide_eq_true c_95
                exact J_110  (Or.inl c_95)
              · have c_95 : ¬ ((f1 f pp) = 15) := of_decide_eq_false c_95
                refine ml_blk 2 (S' := (101, [(0, .ref m0), (1, .int i20_1), (2, .int (f1 f pp)), (3, .int pp)], [.int 16, .int (f1 f pp)], M50)) rfl ?_
                refine ml_if2 (S1 := (110, [(0, .ref m0), (1, .int i20_1), (2, .int (f1 f pp)), (3, .int pp)], [], M50)) (S2 := (104, [(0, .ref m0), (1, .int i20_1), (2, .int (f1 f pp)), (3, .int pp)], [], M50)) rfl rfl rfl (fun c_101 => ?_) (fun c_101 => ?_)
                · have c_101 : (f1 f pp) = 16 := of_decide_eq_true c_101
                  exact J_110  (Or.inr (Or.inl c_101))
                · have c_101 : ¬ ((f1 f pp) = 16) := of_decide_eq_false c_101
                  refine ml_blk 2 (S' := (107, [(0, .ref m0), (1, .int i20_1), (2, .int (f1 f pp)), (3, .int pp)], [.int 18, .int (f1 f pp)], M50)) rfl ?_
                  refine ml_if2 (S1 := (119, [(0, .ref m0), (1, .int i20_1), (2, .int (f1 f pp)), (3, .int pp)], [], M50)) (S2 := (110, [(0, .ref m0), (1, .int i20_1), (2, .int (f1 f pp)), (3, .int pp)], [], M50)) rfl rfl rfl (fun c_107 => ?_) (fun c_107 => ?_)
                  · have c_107 : ¬ (f1 f pp) = 18 := of_decide_eq_true c_107
                    exact J_119 
                  · have c_107 : ¬ (¬ (f1 f pp) = 18) := of_decide_eq_false c_107
                    exact J_110  (Or.inr (Or.inr (Decidable.not_not.mp c_107)))
            refine ml_if2 (S1 := (92, [(0, .ref m0), (1, .int i20_1), (2, .int (f1 f pp)), (3, .int pp)], [], M50)) (S2 := (86, [(3, .int pp), (2, .int (f1 f pp)), (0, .ref m0), (1, .int i20_1)], [], M50)) rfl rfl rfl (fun c_83 => ?_) (fun c_83 => ?_)
            · have c_83 : (f1 f pp) < 3 := of_decide_eq_true c_83
              exact J_92 
            · have c_83 : ¬ ((f1 f pp) < 3) := of_decide_eq_false c_83
              refine ml_blk 2 (S' := (89, [(3, .int pp), (2, .int (f1 f pp)), (0, .ref m0), (1, .int i20_1)], [.int 12, .int (f1 f pp)], M50)) rfl ?_
              refine ml_if2 (S1 := (155, [(0, .ref m0), (1, .int i20_1), (2, .int (f1 f pp)), (3, .int pp)], [], M50)) (S2 := (92, [(0, .ref m0), (1, .int i20_1), (2, .int (f1 f pp)), (3, .int pp)], [], M50)) rfl rfl rfl (fun c_89 => ?_) (fun c_89 => ?_)
              · have c_89 : (f1 f pp) ≤ 12 := of_decide_eq_true c_89
                exact J_155  (Or.inr (Or.inl ⟨by have q := i_nlt c_83; have : (3 : Int32).toInt = 3 := rfl; omega, by have q := i_le c_89; have : (12 : Int32).toInt = 12 := rfl; omega⟩))
              · have c_89 : ¬ ((f1 f pp) ≤ 12) := of_decide_eq_false c_89
                exact J_92 
        · have c_33 : ¬ (¬ u37 = 0) := of_decide_eq_false c_33
          refine ml_st (S' := (37, [(0, .ref m0), (1, .int i20_1)], [.int 0], M30)) rfl rfl rfl ?_
          exact ml_ret rfl (r_z (Or.inl rfl)) (⟨_, _, _, rfl, hR34, (((eqI.rf.put f15 (by decide)).tr hI_20 (by decide)).tr hI35 (by decide)), (((eqR.rf.put f21 (by decide)).tr hV_20 (by decide)).tr hV36 (by decide)), Or.inl rfl, Or.inl rfl⟩)
  have hZ231 : SYM S cN I12 R17 := ((hZ.mono (pIx f15 (by decide)) (fun _ _ => rfl)).mono (fun _ _ => rfl) (pRx f21 (by decide)))
  exact L_20 _ 1 p0 S cN _ _ _ (Nat.le_refl _) hR18 eqI.rf eqR.rf (⟨(f15 50 (by decide)).trans (hk50), by omega, by omega, by decide, by show (1 : Int) ≤ _; omega, hZ231, by omega, by omega, ⟨e19, fun j h1 h2 => absurd h2 (by show ¬ j < (1 : Nat); omega)⟩⟩)
end
section
/-! the reference: a file that was read whole (my own text) -/
section MIW
/-- head, fields, methods, attributes: where each lies -/
def FO (f : Nat → Int32) (n : Nat) (cp mj hA fA mA aA : Int32) : Prop := (1 ≤ cp.toInt ∧ cp.toInt ≤ 65535) ∧ (8 ≤ hA.toInt ∧ hA.toInt + 8 + 2 * (f2 f (hA + 6)).toInt ≤ fA.toInt ∧ fA.toInt ≤ n) ∧ MB f n fA mA ∧ MB f n mA aA ∧ ∃ e, AT f n aA e
def FR (f : Nat → Int32) (n : Nat) (I : rI) (R : rR) : Prop := ∃ (S cN : Nat) (cp mj hA fA mA aA : Int32), SYM S cN I R ∧ PEN f n S cp.toInt.toNat R ∧ FO f n cp mj hA fA mA aA ∧ I 51 = some 0 ∧ I 52 = some cp ∧ I 53 = some mj ∧ I 54 = some hA ∧ I 55 = some fA ∧ I 56 = some mA ∧ I 57 = some aA
theorem MB1.ge {f : Nat → Int32} {n : Nat} (hn : n ≤ 65540) (a b : Int32) (h : MB1 f n a b) : a.toInt + 8 ≤ b.toInt := by
  obtain ⟨h0, h1, h2⟩ := h
  have h3 := at_ge hn h2
  have e : (6 : Int32).toInt = 6 := rfl
  rw [i_add (by omega) (by omega)] at h3
  omega
theorem mb_ge {f : Nat → Int32} {n : Nat} {a b : Int32} (hn : n ≤ 65540) (h : MB f n a b) : a.toInt + 2 ≤ b.toInt ∧ b.toInt ≤ n := by
  obtain ⟨h0, h1, h2, h3⟩ := h
  have h4 := itr.ge (w := 0) (fun a b h => by have := MB1.ge hn a b h; omega) h2
  have e : (2 : Int32).toInt = 2 := rfl
  rw [i_add (by omega) (by omega)] at h4
  exact ⟨by omega, h3⟩
end MIW
end
section
/-! the reference: the file is read (laid by wip/p2/c64.py) -/
set_option maxHeartbeats 2000000 in
theorem rm_readFile {g : xe_G}  {m0 : Nat} {q : Nat → Nat} {z : Nat × Nat} {I : rI} {R : rR} {M : mi_H} {n : Nat} {f : Nat → Int32} {S cN : Nat}  (hR : RS g m0 q z I R M) (hk20 : I 20 = some 0) (hF : FK n f I R) (hZ : SYM S cN I R) (hS3 : S ≤ 3) (hC3 : cN ≤ 30) {d : Nat} (hd : 6 ≤ d) : mt (mT g) d 237 [.ref m0] M (fun v M' => ∃ (x : Int32) (I' : rI) (R' : rR), v = some (.int x) ∧ RS g m0 q z I' R' M' ∧ eqI [3, 8, 20, 47, 48, 50, 51, 52, 53, 54, 55, 56, 57] I I' ∧ eqR [1, 2, 4, 5, 6, 7, 21, 22] R R' ∧ (x = 0 ∨ x = 1) ∧ (x = 0 ∨ FR f n I' R')) := by
  obtain ⟨d, rfl⟩ : ∃ e, d = e + 1 := ⟨d - 1, by omega⟩
  refine mt_in (b := mb_237 g) rfl rfl ?_
  show ml (mT g) d (mb_237 g).2 (0, [(0, .ref m0)], [], M) _
  have hn := hF.1
  have l2 : (2 : Int64).toInt = 2 := rfl
  have l4 : (4 : Int64).toInt = 4 := rfl
  refine ml_blk 2 (S' := (2, [(0, .ref m0)], [.int 0, .ref m0], M)) rfl ?_
  refine rp_int rfl hR rfl (fun M11 I12 hR13 e14 f15 => ?_)
  show ml _ _ _ (5, [(0, .ref m0)], [], M11) _
  refine ml_blk 2 (S' := (9, [(0, .ref m0)], [.long 4, .ref m0], M11)) rfl ?_
  have hF16 : FK n f I12 R := (hF.mono (pIx f15 (by decide)) (fun _ _ => rfl))
  refine ml_call (a := [.ref m0, .long 4]) (rest := []) rfl (hR13.okc rfl rfl rfl) rfl rfl (rm_item hR13 (e14) hF16 (by decide) (by have : (0 : Int32).toInt = 0 := rfl; omega) (by decide) (by decide) (by omega)) (fun v17 M18 h19 => ?_)
  obtain ⟨u25, I20, R21, rfl, hR22, hI23, hV24, z26, w27⟩ := h19
  show ml _ _ _ (12, [(0, .ref m0)], [.int u25], M18) _
  refine ml_if (S1 := (17, [(0, .ref m0)], [], M18)) (S2 := (15, [(0, .ref m0)], [], M18)) rfl rfl rfl (fun c_12 => ?_) (fun c_12 => ?_)
  · have c_12 : ¬ u25 = 0 := of_decide_eq_true c_12
    have h4n := w27.resolve_left c_12
    have z0 : (0 : Int32).toInt = 0 := rfl
    have i4 : (4 : Int32).toInt = 4 := rfl
    have i6 : (6 : Int32).toInt = 6 := rfl
    have i8 : (8 : Int32).toInt = 8 := rfl
    have i10 : (10 : Int32).toInt = 10 := rfl
    refine ml_blk 2 (S' := (19, [(0, .ref m0)], [.int 0, .ref m0], M18)) rfl ?_
    have hF28 : FK n f I20 R21 := (hF16.mono (cIx hI23 (by decide)) (cRx hV24 (by decide)))
    refine ml_call (a := [.ref m0, .int 0]) (rest := []) rfl (hR22.okc rfl rfl rfl) rfl rfl (rm_u4 hR22 hF28 (by decide) (by omega) (by omega)) (fun v29 M30 h31 => ?_)
    obtain ⟨rfl, h31⟩ := h31
    rw [h31]
    show ml _ _ _ (22, [(0, .ref m0)], [.long (f4 f 0)], M18) _
    refine ml_blk 2 (S' := (26, [(0, .ref m0)], [.int (lg_cmp (f4 f 0) 3405691582)], M18)) rfl ?_
    refine ml_if (S1 := (36, [(0, .ref m0)], [], M18)) (S2 := (29, [(0, .ref m0)], [], M18)) rfl rfl rfl (fun c_26 => ?_) (fun c_26 => ?_)
    · have c_26 : (lg_cmp (f4 f 0) 3405691582) = 0 := of_decide_eq_true c_26
      refine ml_blk 2 (S' := (38, [(0, .ref m0)], [.int 4, .ref m0], M18)) rfl ?_
      refine rp_int rfl hR22 rfl (fun M32 I33 hR34 e35 f36 => ?_)
      show ml _ _ _ (41, [(0, .ref m0)], [], M32) _
      refine ml_blk 2 (S' := (45, [(0, .ref m0)], [.long 2, .ref m0], M32)) rfl ?_
      have hF37 : FK n f I33 R21 := (hF28.mono (pIx f36 (by decide)) (fun _ _ => rfl))
      refine ml_call (a := [.ref m0, .long 2]) (rest := []) rfl (hR34.okc rfl rfl rfl) rfl rfl (rm_item hR34 (e35) hF37 (by omega) (by omega) (by decide) (by decide) (by omega)) (fun v38 M39 h40 => ?_)
      obtain ⟨u46, I41, R42, rfl, hR43, hI44, hV45, z47, w48⟩ := h40
      show ml _ _ _ (48, [(0, .ref m0)], [.int u46], M39) _
      refine ml_if (S1 := (53, [(0, .ref m0)], [], M39)) (S2 := (51, [(0, .ref m0)], [], M39)) rfl rfl rfl (fun c_48 => ?_) (fun c_48 => ?_)
      · have c_48 : ¬ u46 = 0 := of_decide_eq_true c_48
        have h6n := w48.resolve_left c_48
        refine ml_blk 2 (S' := (56, [(0, .ref m0)], [.int 6, .ref m0], M39)) rfl ?_
        refine rp_int rfl hR43 rfl (fun M49 I50 hR51 e52 f53 => ?_)
        show ml _ _ _ (59, [(0, .ref m0)], [], M49) _
        refine ml_blk 2 (S' := (63, [(0, .ref m0)], [.long 2, .ref m0], M49)) rfl ?_
        have hF54 : FK n f I50 R42 := ((hF37.mono (cIx hI44 (by decide)) (cRx hV45 (by decide))).mono (pIx f53 (by decide)) (fun _ _ => rfl))
        refine ml_call (a := [.ref m0, .long 2]) (rest := []) rfl (hR51.okc rfl rfl rfl) rfl rfl (rm_item hR51 (e52) hF54 (by omega) (by omega) (by decide) (by decide) (by omega)) (fun v55 M56 h57 => ?_)
        obtain ⟨u63, I58, R59, rfl, hR60, hI61, hV62, z64, w65⟩ := h57
        show ml _ _ _ (66, [(0, .ref m0)], [.int u63], M56) _
        refine ml_if (S1 := (71, [(0, .ref m0)], [], M56)) (S2 := (69, [(0, .ref m0)], [], M56)) rfl rfl rfl (fun c_66 => ?_) (fun c_66 => ?_)
        · have c_66 : ¬ u63 = 0 := of_decide_eq_true c_66
          have h8n := w65.resolve_left c_66
          refine ml_blk 3 (S' := (75, [(0, .ref m0)], [.int 6, .ref m0, .ref m0], M56)) rfl ?_
          have hF66 : FK n f I58 R59 := (hF54.mono (cIx hI61 (by decide)) (cRx hV62 (by decide)))
          refine ml_call (a := [.ref m0, .int 6]) (rest := [.ref m0]) rfl (hR60.okc rfl rfl rfl) rfl rfl (rm_u2 hR60 hF66 (by omega) (by omega) (by omega)) (fun v67 M68 h69 => ?_)
          obtain ⟨rfl, h69⟩ := h69
          rw [h69]
          show ml _ _ _ (78, [(0, .ref m0)], [.int (f2 f 6), .ref m0], M56) _
          refine rp_int rfl hR60 rfl (fun M70 I71 hR72 e73 f74 => ?_)
          show ml _ _ _ (81, [(0, .ref m0)], [], M70) _
          refine ml_st (S' := (82, [(0, .ref m0)], [.ref m0], M70)) rfl rfl rfl ?_
          refine rg_int (S' := (85, [(0, .ref m0)], [.int (f2 f 6)], M70)) rfl hR72 rfl (e73) rfl ?_
          refine ml_st (S' := (87, [(0, .ref m0)], [.int 45, .int (f2 f 6)], M70)) rfl rfl rfl ?_
          refine ml_if2 (S1 := (116, [(0, .ref m0)], [], M70)) (S2 := (90, [(0, .ref m0)], [], M70)) rfl rfl rfl (fun c_87 => ?_) (fun c_87 => ?_)
          · have c_87 : (f2 f 6) < 45 := of_decide_eq_true c_87
            refine ml_blk 3 (S' := (119, [(0, .ref m0)], [.int 4, .int 3, .ref m0], M70)) rfl ?_
            refine ml_call (a := [.ref m0, .int 3, .int 4]) (rest := []) rfl (hR72.okc rfl rfl rfl) rfl rfl (rm_wrong hR72 (by omega)) (fun v75 M76 h77 => ?_)
            obtain ⟨u83, I78, R79, rfl, hR80, hI81, hV82, z84, w85⟩ := h77
            show ml _ _ _ (122, [(0, .ref m0)], [.int u83], M76) _
            exact ml_ret rfl (r_z (z84)) (⟨_, _, _, rfl, hR80, ((((((((eqI.rf.put f15 (by decide)).tr hI23 (by decide)).put f36 (by decide)).tr hI44 (by decide)).put f53 (by decide)).tr hI61 (by decide)).put f74 (by decide)).tr hI81 (by decide)), ((((eqR.rf.tr hV24 (by decide)).tr hV45 (by decide)).tr hV62 (by decide)).tr hV82 (by decide)), z84, Or.inl w85⟩)
          · have c_87 : ¬ ((f2 f 6) < 45) := of_decide_eq_false c_87
            refine ml_st (S' := (91, [(0, .ref m0)], [.ref m0], M70)) rfl rfl rfl ?_
            refine rg_int (S' := (94, [(0, .ref m0)], [.int (f2 f 6)], M70)) rfl hR72 rfl (e73) rfl ?_
            refine ml_st (S' := (96, [(0, .ref m0)], [.int 61, .int (f2 f 6)], M70)) rfl rfl rfl ?_
            refine ml_if2 (S1 := (116, [(0, .ref m0)], [], M70)) (S2 := (99, [(0, .ref m0)], [], M70)) rfl rfl rfl (fun c_96 => ?_) (fun c_96 => ?_)
            · have c_96 : 61 < (f2 f 6) := of_decide_eq_true c_96
              refine ml_blk 3 (S' := (119, [(0, .ref m0)], [.int 4, .int 3, .ref m0], M70)) rfl ?_
              refine ml_call (a := [.ref m0, .int 3, .int 4]) (rest := []) rfl (hR72.okc rfl rfl rfl) rfl rfl (rm_wrong hR72 (by omega)) (fun v86 M87 h88 => ?_)
              obtain ⟨u94, I89, R90, rfl, hR91, hI92, hV93, z95, w96⟩ := h88
              show ml _ _ _ (122, [(0, .ref m0)], [.int u94], M87) _
              exact ml_ret rfl (r_z (z95)) (⟨_, _, _, rfl, hR91, ((((((((eqI.rf.put f15 (by decide)).tr hI23 (by decide)).put f36 (by decide)).tr hI44 (by decide)).put f53 (by decide)).tr hI61 (by decide)).put f74 (by decide)).tr hI92 (by decide)), ((((eqR.rf.tr hV24 (by decide)).tr hV45 (by decide)).tr hV62 (by decide)).tr hV93 (by decide)), z95, Or.inl w96⟩)
            · have c_96 : ¬ (61 < (f2 f 6)) := of_decide_eq_false c_96
              refine ml_st (S' := (100, [(0, .ref m0)], [.ref m0], M70)) rfl rfl rfl ?_
              refine rg_int (S' := (103, [(0, .ref m0)], [.int (f2 f 6)], M70)) rfl hR72 rfl (e73) rfl ?_
              refine ml_st (S' := (105, [(0, .ref m0)], [.int 56, .int (f2 f 6)], M70)) rfl rfl rfl ?_
              have J_123 : ml (mT g) d (mb_237 g).2 (123, [(0, .ref m0)], [], M70) (fun v M' => ∃ (x : Int32) (I' : rI) (R' : rR), v = some (.int x) ∧ RS g m0 q z I' R' M' ∧ eqI [3, 8, 20, 47, 48, 50, 51, 52, 53, 54, 55, 56, 57] I I' ∧ eqR [1, 2, 4, 5, 6, 7, 21, 22] R R' ∧ (x = 0 ∨ x = 1) ∧ (x = 0 ∨ FR f n I' R')) := by
                refine ml_blk 2 (S' := (126, [(0, .ref m0)], [.int 8, .ref m0], M70)) rfl ?_
                refine rp_int rfl hR72 rfl (fun M97 I98 hR99 e100 f101 => ?_)
                show ml _ _ _ (129, [(0, .ref m0)], [], M97) _
                refine ml_blk 2 (S' := (133, [(0, .ref m0)], [.long 2, .ref m0], M97)) rfl ?_
                have hF102 : FK n f I98 R59 := ((hF66.mono (pIx f74 (by decide)) (fun _ _ => rfl)).mono (pIx f101 (by decide)) (fun _ _ => rfl))
                refine ml_call (a := [.ref m0, .long 2]) (rest := []) rfl (hR99.okc rfl rfl rfl) rfl rfl (rm_item hR99 (e100) hF102 (by omega) (by omega) (by decide) (by decide) (by omega)) (fun v103 M104 h105 => ?_)
                obtain ⟨u111, I106, R107, rfl, hR108, hI109, hV110, z112, w113⟩ := h105
                show ml _ _ _ (136, [(0, .ref m0)], [.int u111], M104) _
                refine ml_if (S1 := (141, [(0, .ref m0)], [], M104)) (S2 := (139, [(0, .ref m0)], [], M104)) rfl rfl rfl (fun c_136 => ?_) (fun c_136 => ?_)
                · have c_136 : ¬ u111 = 0 := of_decide_eq_true c_136
                  have h10n := w113.resolve_left c_136
                  refine ml_blk 3 (S' := (145, [(0, .ref m0)], [.int 8, .ref m0, .ref m0], M104)) rfl ?_
                  have hF114 : FK n f I106 R107 := (hF102.mono (cIx hI109 (by decide)) (cRx hV110 (by decide)))
                  refine ml_call (a := [.ref m0, .int 8]) (rest := [.ref m0]) rfl (hR108.okc rfl rfl rfl) rfl rfl (rm_u2 hR108 hF114 (by omega) (by omega) (by omega)) (fun v115 M116 h117 => ?_)
                  obtain ⟨rfl, h117⟩ := h117
                  rw [h117]
                  show ml _ _ _ (148, [(0, .ref m0)], [.int (f2 f 8), .ref m0], M104) _
                  refine rp_int rfl hR108 rfl (fun M118 I119 hR120 e121 f122 => ?_)
                  show ml _ _ _ (151, [(0, .ref m0)], [], M118) _
                  refine ml_st (S' := (152, [(0, .ref m0)], [.ref m0], M118)) rfl rfl rfl ?_
                  refine rg_int (S' := (155, [(0, .ref m0)], [.int (f2 f 8)], M118)) rfl hR120 rfl (e121) rfl ?_
                  refine ml_if (S1 := (166, [(0, .ref m0)], [], M118)) (S2 := (158, [(0, .ref m0)], [], M118)) rfl rfl rfl (fun c_155 => ?_) (fun c_155 => ?_)
                  · have c_155 : ¬ (f2 f 8) = 0 := of_decide_eq_true c_155
                    refine ml_blk 2 (S' := (169, [(0, .ref m0)], [.int 10, .ref m0], M118)) rfl ?_
                    refine rp_int rfl hR120 rfl (fun M123 I124 hR125 e126 f127 => ?_)
                    show ml _ _ _ (172, [(0, .ref m0)], [], M123) _
                    refine ml_st (S' := (173, [(0, .ref m0)], [.ref m0], M123)) rfl rfl rfl ?_
                    have hF128 : FK n f I124 R107 := ((hF114.mono (pIx f122 (by decide)) (fun _ _ => rfl)).mono (pIx f127 (by decide)) (fun _ _ => rfl))
                    have hZ129 : SYM S cN I124 R107 := (((((((((((hZ.mono (pIx f15 (by decide)) (fun _ _ => rfl)).mono (cIx hI23 (by decide)) (cRx hV24 (by decide))).mono (pIx f36 (by decide)) (fun _ _ => rfl)).mono (cIx hI44 (by decide)) (cRx hV45 (by decide))).mono (pIx f53 (by decide)) (fun _ _ => rfl)).mono (cIx hI61 (by decide)) (cRx hV62 (by decide))).mono (pIx f74 (by decide)) (fun _ _ => rfl)).mono (pIx f101 (by decide)) (fun _ _ => rfl)).mono (cIx hI109 (by decide)) (cRx hV110 (by decide))).mono (pIx f122 (by decide)) (fun _ _ => rfl)).mono (pIx f127 (by decide)) (fun _ _ => rfl))
                    refine ml_call (a := [.ref m0]) (rest := []) rfl (hR125.okc rfl rfl rfl) rfl rfl (rm_readPool hR125 ((f127 20 (by decide)).trans ((f122 20 (by decide)).trans ((hI109 20 (by decide)).trans ((f101 20 (by decide)).trans ((f74 20 (by decide)).trans ((hI61 20 (by decide)).trans ((f53 20 (by decide)).trans ((hI44 20 (by decide)).trans ((f36 20 (by decide)).trans ((hI23 20 (by decide)).trans ((f15 20 (by decide)).trans (hk20)))))))))))) (e126) ((f127 52 (by decide)).trans (e121)) ((f127 53 (by decide)).trans ((f122 53 (by decide)).trans ((hI109 53 (by decide)).trans ((f101 53 (by decide)).trans (e73))))) hF128 hZ129 (by omega) (by omega) (by have := f2_pos (f := f) (x := 8); have h9 : (f2 f 8).toInt ≠ 0 := (fun e => c_155 (Int32.toInt_inj.mp e)); omega) (f2_le) (hS3) (hC3) (by omega)) (fun v130 M131 h132 => ?_)
                    obtain ⟨u138, I133, R134, rfl, hR135, hI136, hV137, z139, w140⟩ := h132
                    show ml _ _ _ (176, [(0, .ref m0)], [.int u138], M131) _
                    refine ml_if (S1 := (181, [(0, .ref m0)], [], M131)) (S2 := (179, [(0, .ref m0)], [], M131)) rfl rfl rfl (fun c_176 => ?_) (fun c_176 => ?_)
                    · have c_176 : ¬ u138 = 0 := of_decide_eq_true c_176
                      obtain ⟨S9, c9, ph, hz9, hph, hph0, hph1, h51, hpen⟩ := w140.resolve_left c_176
                      refine ml_blk 2 (S' := (183, [(0, .ref m0)], [.ref m0, .ref m0], M131)) rfl ?_
                      refine rg_int (S' := (186, [(0, .ref m0)], [.int ph, .ref m0], M131)) rfl hR135 rfl (hph) rfl ?_
                      refine rp_int rfl hR135 rfl (fun M141 I142 hR143 e144 f145 => ?_)
                      show ml _ _ _ (189, [(0, .ref m0)], [], M141) _
                      refine ml_st (S' := (190, [(0, .ref m0)], [.int 0], M141)) rfl rfl rfl ?_
                      refine ml_st (S' := (191, [(0, .ref m0), (1, .int 0)], [], M141)) rfl rfl rfl ?_
                      have L_191 : ∀ (n_191 : Nat) (i191_1 : Int32) (pq : Int32) (M_191 : mi_H) (I_191 : rI) (R_191 : rR), (2147483648 - i191_1.toInt).toNat ≤ n_191 → RS g m0 q z I_191 R_191 M_191 → eqI [47, 48, 50] I142 I_191 → eqR [] R134 R_191 → (I_191 50 = some pq ∧ 0 ≤ i191_1.toInt ∧ i191_1.toInt ≤ 4 ∧ pq.toInt = ph.toInt + 2 * i191_1.toInt ∧ pq.toInt ≤ n) → ml (mT g) d (mb_237 g).2 (191, [(0, .ref m0), (1, .int i191_1)], [], M_191) (fun v M' => ∃ (x : Int32) (I' : rI) (R' : rR), v = some (.int x) ∧ RS g m0 q z I' R' M' ∧ eqI [3, 8, 20, 47, 48, 50, 51, 52, 53, 54, 55, 56, 57] I I' ∧ eqR [1, 2, 4, 5, 6, 7, 21, 22] R R' ∧ (x = 0 ∨ x = 1) ∧ (x = 0 ∨ FR f n I' R')) := by
                        intro n_191
                        induction n_191 with
                        | zero => intro i191_1 pq M_191 I_191 R_191 hn; exact (loop_zero hn).elim
                        | succ n_191 ih_191 =>
                          intro i191_1 pq M_191 I_191 R_191 hn_191 hR_191 hI_191 hV_191 hi_191
                          obtain ⟨hq50, hq0, hq1, hqe, hqn⟩ := hi_191
                          refine ml_blk 2 (S' := (193, [(0, .ref m0), (1, .int i191_1)], [.int 4, .int i191_1], M_191)) rfl ?_
                          refine ml_if2 (S1 := (224, [(0, .ref m0), (1, .int i191_1)], [], M_191)) (S2 := (196, [(0, .ref m0), (1, .int i191_1)], [], M_191)) rfl rfl rfl (fun c_193 => ?_) (fun c_193 => ?_)
                          · have c_193 : 4 ≤ i191_1 := of_decide_eq_true c_193
                            have hq8 : pq.toInt = ph.toInt + 8 := by have q := i_le c_193; omega
                            have hph6 : (ph + 6).toInt = ph.toInt + 6 := by rw [i_add (by omega) (by omega), i6]
                            have hqm : pq - 2 = ph + 6 := by apply Int32.toInt_inj.mp; rw [i_sub (by have : (2 : Int32).toInt = 2 := rfl; omega) (by have : (2 : Int32).toInt = 2 := rfl; omega), i_add (by omega) (by omega)]; have : (2 : Int32).toInt = 2 := rfl; omega
                            refine ml_blk 2 (S' := (226, [(0, .ref m0), (1, .int i191_1)], [.ref m0, .ref m0], M_191)) rfl ?_
                            refine rg_int (S' := (229, [(0, .ref m0), (1, .int i191_1)], [.int pq, .ref m0], M_191)) rfl hR_191 rfl (hq50) rfl ?_
                            refine ml_blk 2 (S' := (231, [(0, .ref m0), (1, .int i191_1)], [.int (pq - 2), .ref m0], M_191)) rfl ?_
                            rw [hqm]
                            have hF146 : FK n f I_191 R_191 := (((hF128.mono (cIx hI136 (by decide)) (cRx hV137 (by decide))).mono (pIx f145 (by decide)) (fun _ _ => rfl)).mono (cIx hI_191 (by decide)) (cRx hV_191 (by decide)))
                            refine ml_call (a := [.ref m0, .int (ph + 6)]) (rest := []) rfl (hR_191.okc rfl rfl rfl) rfl rfl (rm_u2 hR_191 hF146 (by omega) (by omega) (by omega)) (fun v147 M148 h149 => ?_)
                            obtain ⟨rfl, h149⟩ := h149
                            rw [h149]
                            show ml _ _ _ (234, [(0, .ref m0), (1, .int i191_1)], [.int (f2 f (ph + 6))], M_191) _
                            refine ml_st (S' := (235, [(1, .int (f2 f (ph + 6))), (0, .ref m0)], [], M_191)) rfl rfl rfl ?_
                            refine ml_st (S' := (236, [(1, .int (f2 f (ph + 6))), (0, .ref m0)], [.int 0], M_191)) rfl rfl rfl ?_
                            refine ml_st (S' := (237, [(0, .ref m0), (1, .int (f2 f (ph + 6))), (2, .int 0)], [], M_191)) rfl rfl rfl ?_
                            have L_237 : ∀ (n_237 : Nat) (i237_2 : Int32) (pr : Int32) (M_237 : mi_H) (I_237 : rI) (R_237 : rR), (2147483648 - i237_2.toInt).toNat ≤ n_237 → RS g m0 q z I_237 R_237 M_237 → eqI [47, 48, 50] I_191 I_237 → eqR [] R_191 R_237 → (I_237 50 = some pr ∧ 0 ≤ i237_2.toInt ∧ i237_2.toInt ≤ (f2 f (ph + 6)).toInt ∧ pr.toInt = ph.toInt + 8 + 2 * i237_2.toInt ∧ pr.toInt ≤ n) → ml (mT g) d (mb_237 g).2 (237, [(0, .ref m0), (1, .int (f2 f (ph + 6))), (2, .int i237_2)], [], M_237) (fun v M' => ∃ (x : Int32) (I' : rI) (R' : rR), v = some (.int x) ∧ RS g m0 q z I' R' M' ∧ eqI [3, 8, 20, 47, 48, 50, 51, 52, 53, 54, 55, 56, 57] I I' ∧ eqR [1, 2, 4, 5, 6, 7, 21, 22] R R' ∧ (x = 0 ∨ x = 1) ∧ (x = 0 ∨ FR f n I' R')) := by
                              intro n_237
                              induction n_237 with
                              | zero => intro i237_2 pr M_237 I_237 R_237 hn; exact (loop_zero hn).elim
                              | succ n_237 ih_237 =>
                                intro i237_2 pr M_237 I_237 R_237 hn_237 hR_237 hI_237 hV_237 hi_237
                                obtain ⟨hr50, hr0, hr1, hre, hrn⟩ := hi_237
                                refine ml_blk 2 (S' := (239, [(0, .ref m0), (1, .int (f2 f (ph + 6))), (2, .int i237_2)], [.int (f2 f (ph + 6)), .int i237_2], M_237)) rfl ?_
                                refine ml_if2 (S1 := (270, [(0, .ref m0), (1, .int (f2 f (ph + 6))), (2, .int i237_2)], [], M_237)) (S2 := (242, [(0, .ref m0), (1, .int (f2 f (ph + 6))), (2, .int i237_2)], [], M_237)) rfl rfl rfl (fun c_239 => ?_) (fun c_239 => ?_)
                                · have c_239 : (f2 f (ph + 6)) ≤ i237_2 := of_decide_eq_true c_239
                                  have hr6 := i_le c_239
                                  refine ml_blk 2 (S' := (272, [(0, .ref m0), (1, .int (f2 f (ph + 6))), (2, .int i237_2)], [.ref m0, .ref m0], M_237)) rfl ?_
                                  refine rg_int (S' := (275, [(0, .ref m0), (1, .int (f2 f (ph + 6))), (2, .int i237_2)], [.int pr, .ref m0], M_237)) rfl hR_237 rfl (hr50) rfl ?_
                                  refine rp_int rfl hR_237 rfl (fun M150 I151 hR152 e153 f154 => ?_)
                                  show ml _ _ _ (278, [(0, .ref m0), (1, .int (f2 f (ph + 6))), (2, .int i237_2)], [], M150) _
                                  refine ml_st (S' := (279, [(0, .ref m0), (1, .int (f2 f (ph + 6))), (2, .int i237_2)], [.ref m0], M150)) rfl rfl rfl ?_
                                  have hF155 : FK n f I151 R_237 := ((hF146.mono (cIx hI_237 (by decide)) (cRx hV_237 (by decide))).mono (pIx f154 (by decide)) (fun _ _ => rfl))
                                  refine ml_call (a := [.ref m0]) (rest := []) rfl (hR152.okc rfl rfl rfl) rfl rfl (rm_members hR152 ((f154 50 (by decide)).trans (hr50)) hF155 (by omega) (by omega) (by omega)) (fun v156 M157 h158 => ?_)
                                  obtain ⟨u164, I159, R160, rfl, hR161, hI162, hV163, z165, w166⟩ := h158
                                  show ml _ _ _ (282, [(0, .ref m0), (1, .int (f2 f (ph + 6))), (2, .int i237_2)], [.int u164], M157) _
                                  refine ml_if (S1 := (287, [(0, .ref m0), (1, .int (f2 f (ph + 6))), (2, .int i237_2)], [], M157)) (S2 := (285, [(0, .ref m0), (1, .int (f2 f (ph + 6))), (2, .int i237_2)], [], M157)) rfl rfl rfl (fun c_282 => ?_) (fun c_282 => ?_)
                                  · have c_282 : ¬ u164 = 0 := of_decide_eq_true c_282
                                    obtain ⟨p1, hp1, hmb1⟩ := w166.resolve_left c_282
                                    have hg1 := mb_ge hn hmb1
                                    refine ml_blk 2 (S' := (289, [(0, .ref m0), (1, .int (f2 f (ph + 6))), (2, .int i237_2)], [.ref m0, .ref m0], M157)) rfl ?_
                                    refine rg_int (S' := (292, [(0, .ref m0), (1, .int (f2 f (ph + 6))), (2, .int i237_2)], [.int p1, .ref m0], M157)) rfl hR161 rfl (hp1) rfl ?_
                                    refine rp_int rfl hR161 rfl (fun M167 I168 hR169 e170 f171 => ?_)
                                    show ml _ _ _ (295, [(0, .ref m0), (1, .int (f2 f (ph + 6))), (2, .int i237_2)], [], M167) _
                                    refine ml_st (S' := (296, [(0, .ref m0), (1, .int (f2 f (ph + 6))), (2, .int i237_2)], [.ref m0], M167)) rfl rfl rfl ?_
                                    have hF172 : FK n f I168 R160 := ((hF155.mono (cIx hI162 (by decide)) (cRx hV163 (by decide))).mono (pIx f171 (by decide)) (fun _ _ => rfl))
                                    refine ml_call (a := [.ref m0]) (rest := []) rfl (hR169.okc rfl rfl rfl) rfl rfl (rm_members hR169 ((f171 50 (by decide)).trans (hp1)) hF172 (by omega) (by omega) (by omega)) (fun v173 M174 h175 => ?_)
                                    obtain ⟨u181, I176, R177, rfl, hR178, hI179, hV180, z182, w183⟩ := h175
                                    show ml _ _ _ (299, [(0, .ref m0), (1, .int (f2 f (ph + 6))), (2, .int i237_2)], [.int u181], M174) _
                                    refine ml_if (S1 := (304, [(0, .ref m0), (1, .int (f2 f (ph + 6))), (2, .int i237_2)], [], M174)) (S2 := (302, [(0, .ref m0), (1, .int (f2 f (ph + 6))), (2, .int i237_2)], [], M174)) rfl rfl rfl (fun c_299 => ?_) (fun c_299 => ?_)
                                    · have c_299 : ¬ u181 = 0 := of_decide_eq_true c_299
                                      obtain ⟨p2, hp2, hmb2⟩ := w183.resolve_left c_299
                                      have hg2 := mb_ge hn hmb2
                                      refine ml_blk 2 (S' := (306, [(0, .ref m0), (1, .int (f2 f (ph + 6))), (2, .int i237_2)], [.ref m0, .ref m0], M174)) rfl ?_
                                      refine rg_int (S' := (309, [(0, .ref m0), (1, .int (f2 f (ph + 6))), (2, .int i237_2)], [.int p2, .ref m0], M174)) rfl hR178 rfl (hp2) rfl ?_
                                      refine rp_int rfl hR178 rfl (fun M184 I185 hR186 e187 f188 => ?_)
                                      show ml _ _ _ (312, [(0, .ref m0), (1, .int (f2 f (ph + 6))), (2, .int i237_2)], [], M184) _
                                      refine ml_st (S' := (313, [(0, .ref m0), (1, .int (f2 f (ph + 6))), (2, .int i237_2)], [.ref m0], M184)) rfl rfl rfl ?_
                                      have hF189 : FK n f I185 R177 := ((hF172.mono (cIx hI179 (by decide)) (cRx hV180 (by decide))).mono (pIx f188 (by decide)) (fun _ _ => rfl))
                                      refine ml_call (a := [.ref m0]) (rest := []) rfl (hR186.okc rfl rfl rfl) rfl rfl (rm_attributes hR186 ((f188 50 (by decide)).trans (hp2)) hF189 (by omega) (by omega) (by omega)) (fun v190 M191 h192 => ?_)
                                      obtain ⟨u198, I193, R194, rfl, hR195, hI196, hV197, z199, w200⟩ := h192
                                      show ml _ _ _ (316, [(0, .ref m0), (1, .int (f2 f (ph + 6))), (2, .int i237_2)], [.int u198], M191) _
                                      refine ml_if (S1 := (321, [(0, .ref m0), (1, .int (f2 f (ph + 6))), (2, .int i237_2)], [], M191)) (S2 := (319, [(0, .ref m0), (1, .int (f2 f (ph + 6))), (2, .int i237_2)], [], M191)) rfl rfl rfl (fun c_316 => ?_) (fun c_316 => ?_)
                                      · have c_316 : ¬ u198 = 0 := of_decide_eq_true c_316
                                        obtain ⟨p3, hp3, hat3⟩ := w200.resolve_left c_316
                                        refine ml_st (S' := (322, [(0, .ref m0), (1, .int (f2 f (ph + 6))), (2, .int i237_2)], [.ref m0], M191)) rfl rfl rfl ?_
                                        refine rg_int (S' := (325, [(0, .ref m0), (1, .int (f2 f (ph + 6))), (2, .int i237_2)], [.int p3], M191)) rfl hR195 rfl (hp3) rfl ?_
                                        refine ml_st (S' := (326, [(0, .ref m0), (1, .int (f2 f (ph + 6))), (2, .int i237_2)], [.ref m0, .int p3], M191)) rfl rfl rfl ?_
                                        refine rg_int (S' := (329, [(0, .ref m0), (1, .int (f2 f (ph + 6))), (2, .int i237_2)], [.int (nI n), .int p3], M191)) rfl hR195 rfl ((hI196 16 (by decide)).trans ((f188 16 (by decide)).trans ((hI179 16 (by decide)).trans ((f171 16 (by decide)).trans ((hI162 16 (by decide)).trans ((f154 16 (by decide)).trans ((hI_237 16 (by decide)).trans ((hI_191 16 (by decide)).trans ((f145 16 (by decide)).trans ((hI136 16 (by decide)).trans ((f127 16 (by decide)).trans ((f122 16 (by decide)).trans ((hI109 16 (by decide)).trans ((f101 16 (by decide)).trans ((f74 16 (by decide)).trans ((hI61 16 (by decide)).trans ((f53 16 (by decide)).trans ((hI44 16 (by decide)).trans ((f36 16 (by decide)).trans ((hI23 16 (by decide)).trans ((f15 16 (by decide)).trans (hF.2.2.1)))))))))))))))))))))) rfl ?_
                                        refine ml_if2 (S1 := (345, [], [], M191)) (S2 := (332, [(0, .ref m0), (1, .int (f2 f (ph + 6))), (2, .int i237_2)], [], M191)) rfl rfl rfl (fun c_329 => ?_) (fun c_329 => ?_)
                                        · have c_329 : p3 = (nI n) := of_decide_eq_true c_329
                                          refine ml_st (S' := (346, [], [.int 1], M191)) rfl rfl rfl ?_
                                          refine ml_st (S' := (350, [], [.int 1], M191)) rfl rfl rfl ?_
                                          have hZ201 : SYM S9 c9 I193 R194 := (((((((((hz9.mono (pIx f145 (by decide)) (fun _ _ => rfl)).mono (cIx hI_191 (by decide)) (cRx hV_191 (by decide))).mono (cIx hI_237 (by decide)) (cRx hV_237 (by decide))).mono (pIx f154 (by decide)) (fun _ _ => rfl)).mono (cIx hI162 (by decide)) (cRx hV163 (by decide))).mono (pIx f171 (by decide)) (fun _ _ => rfl)).mono (cIx hI179 (by decide)) (cRx hV180 (by decide))).mono (pIx f188 (by decide)) (fun _ _ => rfl)).mono (cIx hI196 (by decide)) (cRx hV197 (by decide)))
                                          exact ml_ret rfl (r_z (Or.inr rfl)) (⟨_, _, _, rfl, hR195, (((((((((((((((((((((eqI.rf.put f15 (by decide)).tr hI23 (by decide)).put f36 (by decide)).tr hI44 (by decide)).put f53 (by decide)).tr hI61 (by decide)).put f74 (by decide)).put f101 (by decide)).tr hI109 (by decide)).put f122 (by decide)).put f127 (by decide)).tr hI136 (by decide)).put f145 (by decide)).tr hI_191 (by decide)).tr hI_237 (by decide)).put f154 (by decide)).tr hI162 (by decide)).put f171 (by decide)).tr hI179 (by decide)).put f188 (by decide)).tr hI196 (by decide)), ((((((((((eqR.rf.tr hV24 (by decide)).tr hV45 (by decide)).tr hV62 (by decide)).tr hV110 (by decide)).tr hV137 (by decide)).tr hV_191 (by decide)).tr hV_237 (by decide)).tr hV163 (by decide)).tr hV180 (by decide)).tr hV197 (by decide)), Or.inr rfl, Or.inr ⟨S9, c9, (f2 f 8), (f2 f 6), ph, pr, p1, p2, hZ201, hpen.mono ((hV197 21 (by decide)).trans ((hV180 21 (by decide)).trans ((hV163 21 (by decide)).trans ((hV_237 21 (by decide)).trans ((hV_191 21 (by decide))))))) (fun j _ => congrFun ((hV197 22 (by decide)).trans ((hV180 22 (by decide)).trans ((hV163 22 (by decide)).trans ((hV_237 22 (by decide)).trans ((hV_191 22 (by decide))))))) j) (Nat.le_refl _), ⟨⟨by have := f2_pos (f := f) (x := 8); have h9 : (f2 f 8).toInt ≠ 0 := (fun e => c_155 (Int32.toInt_inj.mp e)); omega, f2_le⟩, ⟨by omega, by omega, hrn⟩, hmb1, hmb2, _, hat3⟩, (hI196 51 (by decide)).trans ((f188 51 (by decide)).trans ((hI179 51 (by decide)).trans ((f171 51 (by decide)).trans ((hI162 51 (by decide)).trans ((f154 51 (by decide)).trans ((hI_237 51 (by decide)).trans ((hI_191 51 (by decide)).trans ((f145 51 (by decide)).trans (h51))))))))), (hI196 52 (by decide)).trans ((f188 52 (by decide)).trans ((hI179 52 (by decide)).trans ((f171 52 (by decide)).trans ((hI162 52 (by decide)).trans ((f154 52 (by decide)).trans ((hI_237 52 (by decide)).trans ((hI_191 52 (by decide)).trans ((f145 52 (by decide)).trans ((hI136 52 (by decide)).trans ((f127 52 (by decide)).trans (e121))))))))))), (hI196 53 (by decide)).trans ((f188 53 (by decide)).trans ((hI179 53 (by decide)).trans ((f171 53 (by decide)).trans ((hI162 53 (by decide)).trans ((f154 53 (by decide)).trans ((hI_237 53 (by decide)).trans ((hI_191 53 (by decide)).trans ((f145 53 (by decide)).trans ((hI136 53 (by decide)).trans ((f127 53 (by decide)).trans ((f122 53 (by decide)).trans ((hI109 53 (by decide)).trans ((f101 53 (by decide)).trans (e73)))))))))))))), (hI196 54 (by decide)).trans ((f188 54 (by decide)).trans ((hI179 54 (by decide)).trans ((f171 54 (by decide)).trans ((hI162 54 (by decide)).trans ((f154 54 (by decide)).trans ((hI_237 54 (by decide)).trans ((hI_191 54 (by decide)).trans (e144)))))))), (hI196 55 (by decide)).trans ((f188 55 (by decide)).trans ((hI179 55 (by decide)).trans ((f171 55 (by decide)).trans ((hI162 55 (by decide)).trans (e153))))), (hI196 56 (by decide)).trans ((f188 56 (by decide)).trans ((hI179 56 (by decide)).trans (e170))), (hI196 57 (by decide)).trans (e187)⟩⟩)
                                        · have c_329 : ¬ (p3 = (nI n)) := of_decide_eq_false c_329
                                          refine ml_blk 3 (S' := (336, [(0, .ref m0), (1, .int (f2 f (ph + 6))), (2, .int i237_2)], [.ref m0, .int 8, .ref m0], M191)) rfl ?_
                                          refine rg_int (S' := (339, [(0, .ref m0), (1, .int (f2 f (ph + 6))), (2, .int i237_2)], [.int p3, .int 8, .ref m0], M191)) rfl hR195 rfl (hp3) rfl ?_
                                          refine ml_call (a := [.ref m0, .int 8, .int p3]) (rest := []) rfl (hR195.okc rfl rfl rfl) rfl rfl (rm_wrong hR195 (by omega)) (fun v202 M203 h204 => ?_)
                                          obtain ⟨u210, I205, R206, rfl, hR207, hI208, hV209, z211, w212⟩ := h204
                                          show ml _ _ _ (342, [(0, .ref m0), (1, .int (f2 f (ph + 6))), (2, .int i237_2)], [.int u210], M203) _
                                          refine ml_if (S1 := (349, [(0, .ref m0), (1, .int (f2 f (ph + 6))), (2, .int i237_2)], [], M203)) (S2 := (345, [], [], M203)) rfl rfl rfl (fun c_342 => ?_) (fun c_342 => ?_)
                                          · have c_342 : u210 = 0 := of_decide_eq_true c_342
                                            refine ml_st (S' := (350, [], [.int 0], M203)) rfl rfl rfl ?_
                                            exact ml_ret rfl (r_z (Or.inl rfl)) (⟨_, _, _, rfl, hR207, ((((((((((((((((((((((eqI.rf.put f15 (by decide)).tr hI23 (by decide)).put f36 (by decide)).tr hI44 (by decide)).put f53 (by decide)).tr hI61 (by decide)).put f74 (by decide)).put f101 (by decide)).tr hI109 (by decide)).put f122 (by decide)).put f127 (by decide)).tr hI136 (by decide)).put f145 (by decide)).tr hI_191 (by decide)).tr hI_237 (by decide)).put f154 (by decide)).tr hI162 (by decide)).put f171 (by decide)).tr hI179 (by decide)).put f188 (by decide)).tr hI196 (by decide)).tr hI208 (by decide)), (((((((((((eqR.rf.tr hV24 (by decide)).tr hV45 (by decide)).tr hV62 (by decide)).tr hV110 (by decide)).tr hV137 (by decide)).tr hV_191 (by decide)).tr hV_237 (by decide)).tr hV163 (by decide)).tr hV180 (by decide)).tr hV197 (by decide)).tr hV209 (by decide)), Or.inl rfl, Or.inl rfl⟩)
                                          · have c_342 : ¬ (u210 = 0) := of_decide_eq_false c_342
                                            refine ml_st (S' := (346, [], [.int 1], M203)) rfl rfl rfl ?_
                                            refine ml_st (S' := (350, [], [.int 1], M203)) rfl rfl rfl ?_
                                            exact ml_ret rfl (r_z (Or.inr rfl)) (⟨_, _, _, rfl, hR207, ((((((((((((((((((((((eqI.rf.put f15 (by decide)).tr hI23 (by decide)).put f36 (by decide)).tr hI44 (by decide)).put f53 (by decide)).tr hI61 (by decide)).put f74 (by decide)).put f101 (by decide)).tr hI109 (by decide)).put f122 (by decide)).put f127 (by decide)).tr hI136 (by decide)).put f145 (by decide)).tr hI_191 (by decide)).tr hI_237 (by decide)).put f154 (by decide)).tr hI162 (by decide)).put f171 (by decide)).tr hI179 (by decide)).put f188 (by decide)).tr hI196 (by decide)).tr hI208 (by decide)), (((((((((((eqR.rf.tr hV24 (by decide)).tr hV45 (by decide)).tr hV62 (by decide)).tr hV110 (by decide)).tr hV137 (by decide)).tr hV_191 (by decide)).tr hV_237 (by decide)).tr hV163 (by decide)).tr hV180 (by decide)).tr hV197 (by decide)).tr hV209 (by decide)), Or.inr rfl, absurd w212 c_342⟩)
                                      · have c_316 : ¬ (¬ u198 = 0) := of_decide_eq_false c_316
                                        refine ml_st (S' := (320, [(0, .ref m0), (1, .int (f2 f (ph + 6))), (2, .int i237_2)], [.int 0], M191)) rfl rfl rfl ?_
                                        exact ml_ret rfl (r_z (Or.inl rfl)) (⟨_, _, _, rfl, hR195, (((((((((((((((((((((eqI.rf.put f15 (by decide)).tr hI23 (by decide)).put f36 (by decide)).tr hI44 (by decide)).put f53 (by decide)).tr hI61 (by decide)).put f74 (by decide)).put f101 (by decide)).tr hI109 (by decide)).put f122 (by decide)).put f127 (by decide)).tr hI136 (by decide)).put f145 (by decide)).tr hI_191 (by decide)).tr hI_237 (by decide)).put f154 (by decide)).tr hI162 (by decide)).put f171 (by decide)).tr hI179 (by decide)).put f188 (by decide)).tr hI196 (by decide)), ((((((((((eqR.rf.tr hV24 (by decide)).tr hV45 (by decide)).tr hV62 (by decide)).tr hV110 (by decide)).tr hV137 (by decide)).tr hV_191 (by decide)).tr hV_237 (by decide)).tr hV163 (by decide)).tr hV180 (by decide)).tr hV197 (by decide)), Or.inl rfl, Or.inl rfl⟩)
                                    · have c_299 : ¬ (¬ u181 = 0) := of_decide_eq_false c_299
                                      refine ml_st (S' := (303, [(0, .ref m0), (1, .int (f2 f (ph + 6))), (2, .int i237_2)], [.int 0], M174)) rfl rfl rfl ?_
                                      exact ml_ret rfl (r_z (Or.inl rfl)) (⟨_, _, _, rfl, hR178, (((((((((((((((((((eqI.rf.put f15 (by decide)).tr hI23 (by decide)).put f36 (by decide)).tr hI44 (by decide)).put f53 (by decide)).tr hI61 (by decide)).put f74 (by decide)).put f101 (by decide)).tr hI109 (by decide)).put f122 (by decide)).put f127 (by decide)).tr hI136 (by decide)).put f145 (by decide)).tr hI_191 (by decide)).tr hI_237 (by decide)).put f154 (by decide)).tr hI162 (by decide)).put f171 (by decide)).tr hI179 (by decide)), (((((((((eqR.rf.tr hV24 (by decide)).tr hV45 (by decide)).tr hV62 (by decide)).tr hV110 (by decide)).tr hV137 (by decide)).tr hV_191 (by decide)).tr hV_237 (by decide)).tr hV163 (by decide)).tr hV180 (by decide)), Or.inl rfl, Or.inl rfl⟩)
                                  · have c_282 : ¬ (¬ u164 = 0) := of_decide_eq_false c_282
                                    refine ml_st (S' := (286, [(0, .ref m0), (1, .int (f2 f (ph + 6))), (2, .int i237_2)], [.int 0], M157)) rfl rfl rfl ?_
                                    exact ml_ret rfl (r_z (Or.inl rfl)) (⟨_, _, _, rfl, hR161, (((((((((((((((((eqI.rf.put f15 (by decide)).tr hI23 (by decide)).put f36 (by decide)).tr hI44 (by decide)).put f53 (by decide)).tr hI61 (by decide)).put f74 (by decide)).put f101 (by decide)).tr hI109 (by decide)).put f122 (by decide)).put f127 (by decide)).tr hI136 (by decide)).put f145 (by decide)).tr hI_191 (by decide)).tr hI_237 (by decide)).put f154 (by decide)).tr hI162 (by decide)), ((((((((eqR.rf.tr hV24 (by decide)).tr hV45 (by decide)).tr hV62 (by decide)).tr hV110 (by decide)).tr hV137 (by decide)).tr hV_191 (by decide)).tr hV_237 (by decide)).tr hV163 (by decide)), Or.inl rfl, Or.inl rfl⟩)
                                · have c_239 : ¬ ((f2 f (ph + 6)) ≤ i237_2) := of_decide_eq_false c_239
                                  refine ml_blk 2 (S' := (246, [(0, .ref m0), (1, .int (f2 f (ph + 6))), (2, .int i237_2)], [.long 2, .ref m0], M_237)) rfl ?_
                                  have hF213 : FK n f I_237 R_237 := (hF146.mono (cIx hI_237 (by decide)) (cRx hV_237 (by decide)))
                                  refine ml_call (a := [.ref m0, .long 2]) (rest := []) rfl (hR_237.okc rfl rfl rfl) rfl rfl (rm_item hR_237 (hr50) hF213 (by omega) (by omega) (by decide) (by decide) (by omega)) (fun v214 M215 h216 => ?_)
                                  obtain ⟨u222, I217, R218, rfl, hR219, hI220, hV221, z223, w224⟩ := h216
                                  show ml _ _ _ (249, [(0, .ref m0), (1, .int (f2 f (ph + 6))), (2, .int i237_2)], [.int u222], M215) _
                                  refine ml_if (S1 := (254, [(0, .ref m0), (1, .int (f2 f (ph + 6))), (2, .int i237_2)], [], M215)) (S2 := (252, [(0, .ref m0), (1, .int (f2 f (ph + 6))), (2, .int i237_2)], [], M215)) rfl rfl rfl (fun c_249 => ?_) (fun c_249 => ?_)
                                  · have c_249 : ¬ u222 = 0 := of_decide_eq_true c_249
                                    have hb := w224.resolve_left c_249
                                    have hr4 : (pr + 2).toInt = pr.toInt + 2 := i_add (by have : (2 : Int32).toInt = 2 := rfl; omega) (by have : (2 : Int32).toInt = 2 := rfl; omega)
                                    have hr5 := inc_lt (Int32.not_le.mp c_239)
                                    refine ml_blk 2 (S' := (256, [(0, .ref m0), (1, .int (f2 f (ph + 6))), (2, .int i237_2)], [.ref m0, .ref m0], M215)) rfl ?_
                                    refine rg_int (S' := (259, [(0, .ref m0), (1, .int (f2 f (ph + 6))), (2, .int i237_2)], [.int pr, .ref m0], M215)) rfl hR219 rfl ((hI220 50 (by decide)).trans (hr50)) rfl ?_
                                    refine ml_blk 2 (S' := (261, [(0, .ref m0), (1, .int (f2 f (ph + 6))), (2, .int i237_2)], [.int (pr + 2), .ref m0], M215)) rfl ?_
                                    refine rp_int rfl hR219 rfl (fun M225 I226 hR227 e228 f229 => ?_)
                                    show ml _ _ _ (264, [(0, .ref m0), (1, .int (f2 f (ph + 6))), (2, .int i237_2)], [], M225) _
                                    refine ml_st (S' := (267, [(2, .int (i237_2 + 1)), (0, .ref m0), (1, .int (f2 f (ph + 6)))], [], M225)) rfl rfl rfl ?_
                                    refine ml_st (S' := (237, [(0, .ref m0), (1, .int (f2 f (ph + 6))), (2, .int (i237_2 + 1))], [], M225)) rfl rfl rfl ?_
                                    exact ih_237 (i237_2 + 1) (pr + 2) _ _ _ (loop_inc (Int32.not_le.mp c_239) hn_237) hR227 (((eqI.rf.tr hI_237 (by decide)).tr hI220 (by decide)).put f229 (by decide)) ((eqR.rf.tr hV_237 (by decide)).tr hV221 (by decide)) (⟨e228, by rw [hr5]; omega, by rw [hr5]; have := i_nle c_239; omega, by rw [hr5]; omega, by omega⟩)
                                  · have c_249 : ¬ (¬ u222 = 0) := of_decide_eq_false c_249
                                    refine ml_st (S' := (253, [(0, .ref m0), (1, .int (f2 f (ph + 6))), (2, .int i237_2)], [.int 0], M215)) rfl rfl rfl ?_
                                    exact ml_ret rfl (r_z (Or.inl rfl)) (⟨_, _, _, rfl, hR219, ((((((((((((((((eqI.rf.put f15 (by decide)).tr hI23 (by decide)).put f36 (by decide)).tr hI44 (by decide)).put f53 (by decide)).tr hI61 (by decide)).put f74 (by decide)).put f101 (by decide)).tr hI109 (by decide)).put f122 (by decide)).put f127 (by decide)).tr hI136 (by decide)).put f145 (by decide)).tr hI_191 (by decide)).tr hI_237 (by decide)).tr hI220 (by decide)), ((((((((eqR.rf.tr hV24 (by decide)).tr hV45 (by decide)).tr hV62 (by decide)).tr hV110 (by decide)).tr hV137 (by decide)).tr hV_191 (by decide)).tr hV_237 (by decide)).tr hV221 (by decide)), Or.inl rfl, Or.inl rfl⟩)
                            exact L_237 _ 0 pq _ _ _ (Nat.le_refl _) hR_191 eqI.rf eqR.rf (⟨hq50, by decide, by show (0 : Int) ≤ _; exact f2_pos, by show _ = ph.toInt + 8 + 2 * 0; omega, by omega⟩)
                          · have c_193 : ¬ (4 ≤ i191_1) := of_decide_eq_false c_193
                            refine ml_blk 2 (S' := (200, [(0, .ref m0), (1, .int i191_1)], [.long 2, .ref m0], M_191)) rfl ?_
                            have hF230 : FK n f I_191 R_191 := (((hF128.mono (cIx hI136 (by decide)) (cRx hV137 (by decide))).mono (pIx f145 (by decide)) (fun _ _ => rfl)).mono (cIx hI_191 (by decide)) (cRx hV_191 (by decide)))
                            refine ml_call (a := [.ref m0, .long 2]) (rest := []) rfl (hR_191.okc rfl rfl rfl) rfl rfl (rm_item hR_191 (hq50) hF230 (by omega) (by omega) (by decide) (by decide) (by omega)) (fun v231 M232 h233 => ?_)
                            obtain ⟨u239, I234, R235, rfl, hR236, hI237, hV238, z240, w241⟩ := h233
                            show ml _ _ _ (203, [(0, .ref m0), (1, .int i191_1)], [.int u239], M232) _
                            refine ml_if (S1 := (208, [(0, .ref m0), (1, .int i191_1)], [], M232)) (S2 := (206, [(0, .ref m0), (1, .int i191_1)], [], M232)) rfl rfl rfl (fun c_203 => ?_) (fun c_203 => ?_)
                            · have c_203 : ¬ u239 = 0 := of_decide_eq_true c_203
                              have hb := w241.resolve_left c_203
                              have hq4 : (pq + 2).toInt = pq.toInt + 2 := i_add (by have : (2 : Int32).toInt = 2 := rfl; omega) (by have : (2 : Int32).toInt = 2 := rfl; omega)
                              have hq5 := inc_lt (Int32.not_le.mp c_193)
                              refine ml_blk 2 (S' := (210, [(0, .ref m0), (1, .int i191_1)], [.ref m0, .ref m0], M232)) rfl ?_
                              refine rg_int (S' := (213, [(0, .ref m0), (1, .int i191_1)], [.int pq, .ref m0], M232)) rfl hR236 rfl ((hI237 50 (by decide)).trans (hq50)) rfl ?_
                              refine ml_blk 2 (S' := (215, [(0, .ref m0), (1, .int i191_1)], [.int (pq + 2), .ref m0], M232)) rfl ?_
                              refine rp_int rfl hR236 rfl (fun M242 I243 hR244 e245 f246 => ?_)
                              show ml _ _ _ (218, [(0, .ref m0), (1, .int i191_1)], [], M242) _
                              refine ml_st (S' := (221, [(1, .int (i191_1 + 1)), (0, .ref m0)], [], M242)) rfl rfl rfl ?_
                              refine ml_st (S' := (191, [(0, .ref m0), (1, .int (i191_1 + 1))], [], M242)) rfl rfl rfl ?_
                              exact ih_191 (i191_1 + 1) (pq + 2) _ _ _ (loop_inc (Int32.not_le.mp c_193) hn_191) hR244 (((eqI.rf.tr hI_191 (by decide)).tr hI237 (by decide)).put f246 (by decide)) ((eqR.rf.tr hV_191 (by decide)).tr hV238 (by decide)) (⟨e245, by rw [hq5]; omega, by rw [hq5]; have := i_nle c_193; omega, by rw [hq5]; omega, by omega⟩)
                            · have c_203 : ¬ (¬ u239 = 0) := of_decide_eq_false c_203
                              refine ml_st (S' := (207, [(0, .ref m0), (1, .int i191_1)], [.int 0], M232)) rfl rfl rfl ?_
                              exact ml_ret rfl (r_z (Or.inl rfl)) (⟨_, _, _, rfl, hR236, (((((((((((((((eqI.rf.put f15 (by decide)).tr hI23 (by decide)).put f36 (by decide)).tr hI44 (by decide)).put f53 (by decide)).tr hI61 (by decide)).put f74 (by decide)).put f101 (by decide)).tr hI109 (by decide)).put f122 (by decide)).put f127 (by decide)).tr hI136 (by decide)).put f145 (by decide)).tr hI_191 (by decide)).tr hI237 (by decide)), (((((((eqR.rf.tr hV24 (by decide)).tr hV45 (by decide)).tr hV62 (by decide)).tr hV110 (by decide)).tr hV137 (by decide)).tr hV_191 (by decide)).tr hV238 (by decide)), Or.inl rfl, Or.inl rfl⟩)
                      exact L_191 _ 0 ph _ _ _ (Nat.le_refl _) hR143 eqI.rf eqR.rf (⟨(f145 50 (by decide)).trans (hph), by decide, by decide, by show _ = ph.toInt + 2 * 0; omega, by omega⟩)
                    · have c_176 : ¬ (¬ u138 = 0) := of_decide_eq_false c_176
                      refine ml_st (S' := (180, [(0, .ref m0)], [.int 0], M131)) rfl rfl rfl ?_
                      exact ml_ret rfl (r_z (Or.inl rfl)) (⟨_, _, _, rfl, hR135, ((((((((((((eqI.rf.put f15 (by decide)).tr hI23 (by decide)).put f36 (by decide)).tr hI44 (by decide)).put f53 (by decide)).tr hI61 (by decide)).put f74 (by decide)).put f101 (by decide)).tr hI109 (by decide)).put f122 (by decide)).put f127 (by decide)).tr hI136 (by decide)), (((((eqR.rf.tr hV24 (by decide)).tr hV45 (by decide)).tr hV62 (by decide)).tr hV110 (by decide)).tr hV137 (by decide)), Or.inl rfl, Or.inl rfl⟩)
                  · have c_155 : ¬ (¬ (f2 f 8) = 0) := of_decide_eq_false c_155
                    refine ml_blk 3 (S' := (162, [(0, .ref m0)], [.int 8, .int 4, .ref m0], M118)) rfl ?_
                    refine ml_call (a := [.ref m0, .int 4, .int 8]) (rest := []) rfl (hR120.okc rfl rfl rfl) rfl rfl (rm_wrong hR120 (by omega)) (fun v247 M248 h249 => ?_)
                    obtain ⟨u255, I250, R251, rfl, hR252, hI253, hV254, z256, w257⟩ := h249
                    show ml _ _ _ (165, [(0, .ref m0)], [.int u255], M248) _
                    exact ml_ret rfl (r_z (z256)) (⟨_, _, _, rfl, hR252, (((((((((((eqI.rf.put f15 (by decide)).tr hI23 (by decide)).put f36 (by decide)).tr hI44 (by decide)).put f53 (by decide)).tr hI61 (by decide)).put f74 (by decide)).put f101 (by decide)).tr hI109 (by decide)).put f122 (by decide)).tr hI253 (by decide)), (((((eqR.rf.tr hV24 (by decide)).tr hV45 (by decide)).tr hV62 (by decide)).tr hV110 (by decide)).tr hV254 (by decide)), z256, Or.inl w257⟩)
                · have c_136 : ¬ (¬ u111 = 0) := of_decide_eq_false c_136
                  refine ml_st (S' := (140, [(0, .ref m0)], [.int 0], M104)) rfl rfl rfl ?_
                  exact ml_ret rfl (r_z (Or.inl rfl)) (⟨_, _, _, rfl, hR108, (((((((((eqI.rf.put f15 (by decide)).tr hI23 (by decide)).put f36 (by decide)).tr hI44 (by decide)).put f53 (by decide)).tr hI61 (by decide)).put f74 (by decide)).put f101 (by decide)).tr hI109 (by decide)), ((((eqR.rf.tr hV24 (by decide)).tr hV45 (by decide)).tr hV62 (by decide)).tr hV110 (by decide)), Or.inl rfl, Or.inl rfl⟩)
              refine ml_if2 (S1 := (123, [(0, .ref m0)], [], M70)) (S2 := (108, [(0, .ref m0)], [], M70)) rfl rfl rfl (fun c_105 => ?_) (fun c_105 => ?_)
              · have c_105 : (f2 f 6) < 56 := of_decide_eq_true c_105
                exact J_123 
              · have c_105 : ¬ ((f2 f 6) < 56) := of_decide_eq_false c_105
                refine ml_blk 2 (S' := (110, [(0, .ref m0)], [.int 4, .ref m0], M70)) rfl ?_
                have hF258 : FK n f I71 R59 := (hF66.mono (pIx f74 (by decide)) (fun _ _ => rfl))
                refine ml_call (a := [.ref m0, .int 4]) (rest := []) rfl (hR72.okc rfl rfl rfl) rfl rfl (rm_u2 hR72 hF258 (by omega) (by omega) (by omega)) (fun v259 M260 h261 => ?_)
                obtain ⟨rfl, h261⟩ := h261
                rw [h261]
                show ml _ _ _ (113, [(0, .ref m0)], [.int (f2 f 4)], M70) _
                refine ml_if (S1 := (123, [(0, .ref m0)], [], M70)) (S2 := (116, [(0, .ref m0)], [], M70)) rfl rfl rfl (fun c_113 => ?_) (fun c_113 => ?_)
                · have c_113 : (f2 f 4) = 0 := of_decide_eq_true c_113
                  exact J_123 
                · have c_113 : ¬ ((f2 f 4) = 0) := of_decide_eq_false c_113
                  refine ml_blk 3 (S' := (119, [(0, .ref m0)], [.int 4, .int 3, .ref m0], M70)) rfl ?_
                  refine ml_call (a := [.ref m0, .int 3, .int 4]) (rest := []) rfl (hR72.okc rfl rfl rfl) rfl rfl (rm_wrong hR72 (by omega)) (fun v262 M263 h264 => ?_)
                  obtain ⟨u270, I265, R266, rfl, hR267, hI268, hV269, z271, w272⟩ := h264
                  show ml _ _ _ (122, [(0, .ref m0)], [.int u270], M263) _
                  exact ml_ret rfl (r_z (z271)) (⟨_, _, _, rfl, hR267, ((((((((eqI.rf.put f15 (by decide)).tr hI23 (by decide)).put f36 (by decide)).tr hI44 (by decide)).put f53 (by decide)).tr hI61 (by decide)).put f74 (by decide)).tr hI268 (by decide)), ((((eqR.rf.tr hV24 (by decide)).tr hV45 (by decide)).tr hV62 (by decide)).tr hV269 (by decide)), z271, Or.inl w272⟩)
        · have c_66 : ¬ (¬ u63 = 0) := of_decide_eq_false c_66
          refine ml_st (S' := (70, [(0, .ref m0)], [.int 0], M56)) rfl rfl rfl ?_
          exact ml_ret rfl (r_z (Or.inl rfl)) (⟨_, _, _, rfl, hR60, ((((((eqI.rf.put f15 (by decide)).tr hI23 (by decide)).put f36 (by decide)).tr hI44 (by decide)).put f53 (by decide)).tr hI61 (by decide)), (((eqR.rf.tr hV24 (by decide)).tr hV45 (by decide)).tr hV62 (by decide)), Or.inl rfl, Or.inl rfl⟩)
      · have c_48 : ¬ (¬ u46 = 0) := of_decide_eq_false c_48
        refine ml_st (S' := (52, [(0, .ref m0)], [.int 0], M39)) rfl rfl rfl ?_
        exact ml_ret rfl (r_z (Or.inl rfl)) (⟨_, _, _, rfl, hR43, ((((eqI.rf.put f15 (by decide)).tr hI23 (by decide)).put f36 (by decide)).tr hI44 (by decide)), ((eqR.rf.tr hV24 (by decide)).tr hV45 (by decide)), Or.inl rfl, Or.inl rfl⟩)
    · have c_26 : ¬ ((lg_cmp (f4 f 0) 3405691582) = 0) := of_decide_eq_false c_26
      refine ml_blk 3 (S' := (32, [(0, .ref m0)], [.int 0, .int 2, .ref m0], M18)) rfl ?_
      refine ml_call (a := [.ref m0, .int 2, .int 0]) (rest := []) rfl (hR22.okc rfl rfl rfl) rfl rfl (rm_wrong hR22 (by omega)) (fun v273 M274 h275 => ?_)
      obtain ⟨u281, I276, R277, rfl, hR278, hI279, hV280, z282, w283⟩ := h275
      show ml _ _ _ (35, [(0, .ref m0)], [.int u281], M274) _
      exact ml_ret rfl (r_z (z282)) (⟨_, _, _, rfl, hR278, (((eqI.rf.put f15 (by decide)).tr hI23 (by decide)).tr hI279 (by decide)), ((eqR.rf.tr hV24 (by decide)).tr hV280 (by decide)), z282, Or.inl w283⟩)
  · have c_12 : ¬ (¬ u25 = 0) := of_decide_eq_false c_12
    refine ml_st (S' := (16, [(0, .ref m0)], [.int 0], M18)) rfl rfl rfl ?_
    exact ml_ret rfl (r_z (Or.inl rfl)) (⟨_, _, _, rfl, hR22, ((eqI.rf.put f15 (by decide)).tr hI23 (by decide)), (eqR.rf.tr hV24 (by decide)), Or.inl rfl, Or.inl rfl⟩)
end
section
/-! the reference: texts (my own text) -/
section MIV
def tx (sa ch : Nat → Int32) (s k : Int32) : Int32 := ch (sa s.toNatClampNeg + k).toNatClampNeg
def sL (sl : Nat → Int32) (s : Int32) : Int32 := sl s.toNatClampNeg
theorem r_c {v : Int32} (h : ch16 v) : r_int mi_cc [.int v] = some (some (.int v)) := by
  have : mi_cc v = true := decide_eq_true h
  simp [r_int, this]
/-- a class's name -/
def ntx (c : Int32 → Int32) (to : Int32) : Nat → Int32 → Int32 → Int32
  | 0, _, _ => 1
  | m + 1, k, last => if to < k then 1 else if (if k < to then c k else 47) = 46 ∨ (if k < to then c k else 47) = 59 ∨ (if k < to then c k else 47) = 91 then 0 else if (if k < to then c k else 47) = 47 then (if k = last + 1 then 0 else ntx c to m (k + 1) k) else ntx c to m (k + 1) last
def ntf (to k : Int32) : Nat := (to.toInt + 2 - k.toInt).toNat
def ntv (c : Int32 → Int32) (a to : Int32) : Int32 := ntx c to (ntf to a) a (a - 1)
variable {c : Int32 → Int32} {to k last v n a e : Int32} {m : Nat} {p : Int32 → Bool}
theorem ntf_s (h : ¬ to < k) (h1 : (k + 1).toInt = k.toInt + 1) : ntf to k = ntf to (k + 1) + 1 := by
  have := i_nlt h
  unfold ntf
  omega
theorem ntx_end (h : to < k) : ntx c to m k last = 1 := by
  cases m with
  | zero => rfl
  | succ m => rw [ntx, if_pos h]
theorem ntx_bad (h : ¬ to < k) (hv : v = if k < to then c k else 47) (hb : v = 46 ∨ v = 59 ∨ v = 91) : ntx c to (m + 1) k last = 0 := by
  rw [ntx, if_neg h, ← hv, if_pos hb]
theorem ntx_dbl (h : ¬ to < k) (hv : v = if k < to then c k else 47) (hb : ¬ (v = 46 ∨ v = 59 ∨ v = 91)) (h47 : v = 47) (hl : k = last + 1) : ntx c to (m + 1) k last = 0 := by
  rw [ntx, if_neg h, ← hv, if_neg hb, if_pos h47, if_pos hl]
theorem ntx_sep (h : ¬ to < k) (hv : v = if k < to then c k else 47) (hb : ¬ (v = 46 ∨ v = 59 ∨ v = 91)) (h47 : v = 47) (hl : ¬ k = last + 1) : ntx c to (m + 1) k last = ntx c to m (k + 1) k := by
  rw [ntx, if_neg h, ← hv, if_neg hb, if_pos h47, if_neg hl]
theorem ntx_go (h : ¬ to < k) (hv : v = if k < to then c k else 47) (hb : ¬ (v = 46 ∨ v = 59 ∨ v = 91)) (h47 : ¬ v = 47) : ntx c to (m + 1) k last = ntx c to m (k + 1) last := by
  rw [ntx, if_neg h, ← hv, if_neg hb, if_neg h47]
theorem ntx_01 : ∀ {m : Nat} {k last : Int32}, ntx c to m k last = 0 ∨ ntx c to m k last = 1
  | 0, _, _ => Or.inr rfl
  | m + 1, k, last => by
    rw [ntx]
    generalize (if k < to then c k else 47) = v
    split
    · exact Or.inr rfl
    · split
      · exact Or.inl rfl
      · split
        · split
          · exact Or.inl rfl
          · exact ntx_01
        · exact ntx_01
/-- the first place from k on where p is no longer so -/
def scn (p : Int32 → Bool) (n : Int32) : Nat → Int32 → Int32
  | 0, k => k
  | m + 1, k => if k < n ∧ p k = true then scn p n m (k + 1) else k
def scf (n k : Int32) : Nat := (n.toInt - k.toInt).toNat
theorem scn_end (h : ¬ (k < n ∧ p k = true)) : scn p n m k = k := by
  cases m with
  | zero => rfl
  | succ m => rw [scn, if_neg h]
theorem scn_go (h : k < n) (hp : p k = true) (h1 : (k + 1).toInt = k.toInt + 1) : scn p n (scf n k) k = scn p n (scf n (k + 1)) (k + 1) := by
  have h2 := i_lt h
  rw [show scf n k = scf n (k + 1) + 1 by unfold scf; omega, scn, if_pos ⟨h, hp⟩]
theorem scn_ge : ∀ {m : Nat} {k : Int32}, 0 ≤ k.toInt → k.toInt ≤ n.toInt → n.toInt < 1073741824 → k.toInt ≤ (scn p n m k).toInt ∧ (scn p n m k).toInt ≤ n.toInt
  | 0, k, h0, h1, _ => ⟨Int.le_refl _, h1⟩
  | m + 1, k, h0, h1, h2 => by
    rw [scn]
    split
    · rename_i h
      have h3 := i_lt h.1
      have h4 : (k + 1).toInt = k.toInt + 1 := inc_lt h.1
      have := scn_ge (m := m) (k := k + 1) (by omega) (by omega) h2
      omega
    · exact ⟨Int.le_refl _, h1⟩
def PL1 (c : Int32 → Int32) : Int32 → Bool := fun j => decide (c j = 91)
def PL2 (c : Int32 → Int32) : Int32 → Bool := fun j => decide (¬ c j = 59)
def ftB (c : Int32 → Int32) (n k e : Int32) : Int32 := if e < n ∧ ntv c (k + 1) e = 1 then e + 1 else -1
def prim (v : Int32) : Prop := v = 66 ∨ v = 67 ∨ v = 68 ∨ v = 70 ∨ v = 73 ∨ v = 74 ∨ v = 83 ∨ v = 90
def ftA (c : Int32 → Int32) (n a k : Int32) : Int32 := if 255 < k - a ∨ n ≤ k then -1 else if c k = 66 ∨ c k = 67 ∨ c k = 68 ∨ c k = 70 ∨ c k = 73 ∨ c k = 74 ∨ c k = 83 ∨ c k = 90 then k + 1 else if c k = 76 then ftB c n k (scn (PL2 c) n (scf n (k + 1)) (k + 1)) else -1
def FTx (c : Int32 → Int32) (n a : Int32) : Int32 := ftA c n a (scn (PL1 c) n (scf n a) a)
theorem ft_1 (h : scn (PL1 c) n (scf n a) a = k) (hb : 255 < k - a ∨ n ≤ k) : -1 = FTx c n a := by
  rw [FTx, h, ftA, if_pos hb]
theorem ft_p (h : scn (PL1 c) n (scf n a) a = k) (hb : ¬ (255 < k - a ∨ n ≤ k)) (hp : prim (c k)) : k + 1 = FTx c n a := by
  unfold prim at hp
  rw [FTx, h, ftA, if_neg hb, if_pos hp]
theorem ft_n (h : scn (PL1 c) n (scf n a) a = k) (hb : ¬ (255 < k - a ∨ n ≤ k)) (hp : ¬ prim (c k)) (hL : ¬ c k = 76) : -1 = FTx c n a := by
  unfold prim at hp
  rw [FTx, h, ftA, if_neg hb, if_neg hp, if_neg hL]
theorem ft_b (h : scn (PL1 c) n (scf n a) a = k) (hb : ¬ (255 < k - a ∨ n ≤ k)) (hp : ¬ prim (c k)) (hL : c k = 76) (h2 : scn (PL2 c) n (scf n (k + 1)) (k + 1) = e) : FTx c n a = ftB c n k e := by
  unfold prim at hp
  rw [FTx, h, ftA, if_neg hb, if_neg hp, if_pos hL, h2]
theorem FTx_b (h0 : 0 ≤ a.toInt) (h1 : a.toInt ≤ n.toInt) (h2 : n.toInt < 1073741824) : FTx c n a = -1 ∨ (a.toInt < (FTx c n a).toInt ∧ (FTx c n a).toInt ≤ n.toInt) := by
  have h3 := scn_ge (p := PL1 c) (m := scf n a) h0 h1 h2
  unfold FTx
  generalize scn (PL1 c) n (scf n a) a = k at h3
  unfold ftA
  split
  · exact Or.inl rfl
  · rename_i hb
    have hk : k < n := Int32.not_le.mp (fun q => hb (Or.inr q))
    have hk1 := i_lt hk
    have hk2 : (k + 1).toInt = k.toInt + 1 := inc_lt hk
    split
    · exact Or.inr ⟨by omega, by omega⟩
    · split
      · have h4 := scn_ge (p := PL2 c) (m := scf n (k + 1)) (k := k + 1) (by omega) (by omega) h2
        generalize scn (PL2 c) n (scf n (k + 1)) (k + 1) = e at h4
        unfold ftB
        split
        · rename_i h5
          have h6 : (e + 1).toInt = e.toInt + 1 := inc_lt h5.1
          have h7 := i_lt h5.1
          exact Or.inr ⟨by omega, by omega⟩
        · exact Or.inl rfl
      · exact Or.inl rfl
/-- arguments, one behind another, up to the ')' -/
def AG1 (c : Int32 → Int32) (n a b : Int32) : Prop := 0 ≤ a.toInt ∧ a.toInt < n.toInt ∧ ¬ c a = 41 ∧ b = FTx c n a ∧ a.toInt < b.toInt ∧ b.toInt ≤ n.toInt
def AGW (c : Int32 → Int32) (n a : Int32) : Prop := ∃ m b, itr (AG1 c n) m a b ∧ 0 ≤ b.toInt ∧ b.toInt < n.toInt ∧ c b = 41
theorem AGW.at (h : AGW c n a) : 0 ≤ a.toInt ∧ a.toInt < n.toInt := by
  obtain ⟨m, b, h1, h2, h3, h4⟩ := h
  cases m with
  | zero => cases h1; exact ⟨h2, h3⟩
  | succ m =>
    obtain ⟨c1, h5, h6⟩ := h1.front
    exact ⟨h5.1, h5.2.1⟩
theorem AGW.next (h : AGW c n a) (ha : ¬ c a = 41) : a.toInt < (FTx c n a).toInt ∧ AGW c n (FTx c n a) := by
  obtain ⟨m, b, h1, h2, h3, h4⟩ := h
  cases m with
  | zero => cases h1; exact absurd h4 ha
  | succ m =>
    obtain ⟨c1, h5, h6⟩ := h1.front
    obtain ⟨d1, d2, d3, d4, d5, d6⟩ := h5
    subst d4
    exact ⟨d5, m, b, h6, h2, h3, h4⟩
end MIV
end
section
/-! the reference: texts (laid by wip/p2/c65.py) -/
theorem nI_up {n : Nat} : (nI n).toInt ≤ (n : Int) := by
  by_cases h : n < 1073741824
  · rw [nI_val h]
    omega
  · have := Int32.toInt_lt (nI n)
    have h2 : (nI n).toInt = (Int32.ofNat n).toInt := rfl
    rw [h2, Int32.toInt_ofNat']
    have h9 : Int.bmod (n : Int) (2 ^ 32) = (n : Int) % (2 ^ 32 : Nat) ∨ Int.bmod (n : Int) (2 ^ 32) = (n : Int) % (2 ^ 32 : Nat) - (2 ^ 32 : Nat) := by
      unfold Int.bmod
      simp only
      split
      · exact Or.inl rfl
      · exact Or.inr rfl
    have h8 : (n : Int) % (2 ^ 32 : Nat) ≤ n := by omega
    rcases h9 with h9 | h9 <;> rw [h9] <;> omega

set_option maxHeartbeats 2000000 in
theorem rm_length {g : xe_G}  {m0 : Nat} {q : Nat → Nat} {z : Nat × Nat} {I : rI} {R : rR} {M : mi_H} {x1 : Int32} {S cN : Nat} {sa sl ch : Nat → Int32}  (hR : RS g m0 q z I R M) (hY : SK S cN sa sl ch I R) (hs0 : 0 ≤ x1.toInt) (hs1 : x1.toInt < S) {d : Nat} (hd : 1 ≤ d) : mt (mT g) d 221 [.ref m0, .int x1] M (fun v M' => v = some (.int (sL sl x1)) ∧ M' = M) := by
  obtain ⟨d, rfl⟩ : ∃ e, d = e + 1 := ⟨d - 1, by omega⟩
  refine mt_in (b := mb_221 g) rfl rfl ?_
  show ml (mT g) d (mb_221 g).2 (0, [(0, .ref m0), (1, .int x1)], [], M) _
  refine ml_st (S' := (1, [(0, .ref m0), (1, .int x1)], [.ref m0], M)) rfl rfl rfl ?_
  refine rg_ref (S' := (4, [(0, .ref m0), (1, .int x1)], [.ref (q 5)], M)) rfl hR rfl rfl ?_
  refine ml_st (S' := (5, [(0, .ref m0), (1, .int x1)], [.int x1, .ref (q 5)], M)) rfl rfl rfl ?_
  refine ra_ld (k := 5) (S' := (6, [(0, .ref m0), (1, .int x1)], [.int (sl (Int32.toNatClampNeg x1))], M)) rfl hR rfl ((hY.s hs0 hs1).2.2.2.2.2.2) ((hY.s hs0 hs1).2.1) rfl ?_
  exact ml_ret rfl (rfl) (⟨rfl, rfl⟩)
set_option maxHeartbeats 2000000 in
theorem rm_at {g : xe_G}  {m0 : Nat} {q : Nat → Nat} {z : Nat × Nat} {I : rI} {R : rR} {M : mi_H} {x1 x2 : Int32} {S cN : Nat} {sa sl ch : Nat → Int32}  (hR : RS g m0 q z I R M) (hY : SK S cN sa sl ch I R) (hs0 : 0 ≤ x1.toInt) (hs1 : x1.toInt < S) (hk0 : 0 ≤ x2.toInt) (hk1 : x2.toInt < (sL sl x1).toInt) {d : Nat} (hd : 1 ≤ d) : mt (mT g) d 176 [.ref m0, .int x1, .int x2] M (fun v M' => v = some (.int (tx sa ch x1 x2)) ∧ M' = M) := by
  obtain ⟨d, rfl⟩ : ∃ e, d = e + 1 := ⟨d - 1, by omega⟩
  refine mt_in (b := mb_176 g) rfl rfl ?_
  show ml (mT g) d (mb_176 g).2 (0, [(0, .ref m0), (1, .int x1), (2, .int x2)], [], M) _
  refine ml_st (S' := (1, [(0, .ref m0), (1, .int x1), (2, .int x2)], [.ref m0], M)) rfl rfl rfl ?_
  refine rg_ref (S' := (4, [(0, .ref m0), (1, .int x1), (2, .int x2)], [.ref (q 1)], M)) rfl hR rfl rfl ?_
  refine ml_st (S' := (5, [(0, .ref m0), (1, .int x1), (2, .int x2)], [.ref m0, .ref (q 1)], M)) rfl rfl rfl ?_
  refine rg_ref (S' := (8, [(0, .ref m0), (1, .int x1), (2, .int x2)], [.ref (q 4), .ref (q 1)], M)) rfl hR rfl rfl ?_
  refine ml_st (S' := (9, [(0, .ref m0), (1, .int x1), (2, .int x2)], [.int x1, .ref (q 4), .ref (q 1)], M)) rfl rfl rfl ?_
  refine ra_ld (k := 4) (S' := (10, [(0, .ref m0), (1, .int x1), (2, .int x2)], [.int (sa (Int32.toNatClampNeg x1)), .ref (q 1)], M)) rfl hR rfl ((hY.s hs0 hs1).2.2.2.2.2.2) ((hY.s hs0 hs1).1) rfl ?_
  refine ml_blk 2 (S' := (12, [(0, .ref m0), (1, .int x1), (2, .int x2)], [.int ((sa (Int32.toNatClampNeg x1)) + x2), .ref (q 1)], M)) rfl ?_
  refine ra_ld (k := 1) (S' := (13, [(0, .ref m0), (1, .int x1), (2, .int x2)], [.int (ch (Int32.toNatClampNeg ((sa (Int32.toNatClampNeg x1)) + x2)))], M)) rfl hR rfl ((hY.t hs0 hs1 hk0 hk1).2.2) ((hY.t hs0 hs1 hk0 hk1).1) rfl ?_
  exact ml_ret rfl (r_c (hY.t hs0 hs1 hk0 hk1).2.1) (⟨rfl, rfl⟩)
set_option maxHeartbeats 2000000 in
theorem rm_is {g : xe_G}  {m0 : Nat} {q : Nat → Nat} {z : Nat × Nat} {I : rI} {R : rR} {M : mi_H} {x1 : Int32} {S cN : Nat} {sa sl ch : Nat → Int32} {lk : Nat}  (hR : RS g m0 q z I R M) (hY : SK S cN sa sl ch I R) (hs0 : 0 ≤ x1.toInt) (hs1 : x1.toInt < S) (hlk : rlk lk) {d : Nat} (hd : 2 ≤ d) : mt (mT g) d 216 [.ref m0, .int x1, .ref (g.2.1 lk)] M (fun v M' => (∃ x : Int32, v = some (.int x) ∧ (x = 0 ∨ x = 1)) ∧ M' = M) := by
  obtain ⟨d, rfl⟩ : ∃ e, d = e + 1 := ⟨d - 1, by omega⟩
  refine mt_in (b := mb_216 g) rfl rfl ?_
  show ml (mT g) d (mb_216 g).2 (0, [(0, .ref m0), (1, .int x1), (2, .ref (g.2.1 lk))], [], M) _
  have hsl := hY.s hs0 hs1
  have hsl0 : 0 ≤ (sL sl x1).toInt := hsl.2.2.2.1
  have hsl1 : (sL sl x1).toInt ≤ 66000 := by have h1 := hsl.2.2.1; have h2 := hsl.2.2.2.2.1; have h3 := hsl.2.2.2.2.2.1; show (sl _).toInt ≤ 66000; omega
  refine ml_blk 2 (S' := (2, [(0, .ref m0), (1, .int x1), (2, .ref (g.2.1 lk))], [.int x1, .ref m0], M)) rfl ?_
  refine ml_call (a := [.ref m0, .int x1]) (rest := []) rfl (hR.okc rfl rfl rfl) rfl rfl (rm_length hR hY (hs0) (hs1) (by omega)) (fun v11 M12 h13 => ?_)
  obtain ⟨rfl, h13⟩ := h13
  rw [h13]
  show ml _ _ _ (5, [(0, .ref m0), (1, .int x1), (2, .ref (g.2.1 lk))], [.int (sL sl x1)], M) _
  refine ml_st (S' := (6, [(0, .ref m0), (1, .int x1), (2, .ref (g.2.1 lk))], [.ref (g.2.1 lk), .int (sL sl x1)], M)) rfl rfl rfl ?_
  obtain ⟨fl14, hl15⟩ := hR.2.2.2.2.2 lk hlk
  refine ml_slen (lk := lk) (S' := (9, [(0, .ref m0), (1, .int x1), (2, .ref (g.2.1 lk))], [.int (nI (xe_lt lk).2.2.2.length), .int (sL sl x1)], M)) rfl hl15 hlk.2 rfl rfl ?_
  refine ml_if2 (S1 := (14, [(0, .ref m0), (1, .int x1), (2, .ref (g.2.1 lk))], [], M)) (S2 := (12, [(0, .ref m0), (1, .int x1), (2, .ref (g.2.1 lk))], [], M)) rfl rfl rfl (fun c_9 => ?_) (fun c_9 => ?_)
  · have c_9 : (sL sl x1) = (nI (xe_lt lk).2.2.2.length) := of_decide_eq_true c_9
    refine ml_st (S' := (15, [(0, .ref m0), (1, .int x1), (2, .ref (g.2.1 lk))], [.int 0], M)) rfl rfl rfl ?_
    refine ml_st (S' := (16, [(0, .ref m0), (1, .int x1), (2, .ref (g.2.1 lk)), (3, .int 0)], [], M)) rfl rfl rfl ?_
    have L_16 : ∀ (n_16 : Nat) (i16_3 : Int32), (2147483648 - i16_3.toInt).toNat ≤ n_16 → 0 ≤ i16_3.toInt → ml (mT g) d (mb_216 g).2 (16, [(0, .ref m0), (1, .int x1), (2, .ref (g.2.1 lk)), (3, .int i16_3)], [], M) (fun v M' => (∃ x : Int32, v = some (.int x) ∧ (x = 0 ∨ x = 1)) ∧ M' = M) := by
      intro n_16
      induction n_16 with
      | zero => intro i16_3 hn; exact (loop_zero hn).elim
      | succ n_16 ih_16 =>
        intro i16_3 hn_16 hi_16
        refine ml_blk 2 (S' := (18, [(0, .ref m0), (1, .int x1), (2, .ref (g.2.1 lk)), (3, .int i16_3)], [.ref (g.2.1 lk), .int i16_3], M)) rfl ?_
        obtain ⟨fl16, hl17⟩ := hR.2.2.2.2.2 lk hlk
        refine ml_slen (lk := lk) (S' := (21, [(0, .ref m0), (1, .int x1), (2, .ref (g.2.1 lk)), (3, .int i16_3)], [.int (nI (xe_lt lk).2.2.2.length), .int i16_3], M)) rfl hl17 hlk.2 rfl rfl ?_
        refine ml_if2 (S1 := (46, [(0, .ref m0), (1, .int x1), (2, .ref (g.2.1 lk)), (3, .int i16_3)], [], M)) (S2 := (24, [(0, .ref m0), (1, .int x1), (2, .ref (g.2.1 lk)), (3, .int i16_3)], [], M)) rfl rfl rfl (fun c_21 => ?_) (fun c_21 => ?_)
        · have c_21 : (nI (xe_lt lk).2.2.2.length) ≤ i16_3 := of_decide_eq_true c_21
          refine ml_st (S' := (47, [(0, .ref m0), (1, .int x1), (2, .ref (g.2.1 lk)), (3, .int i16_3)], [.int 1], M)) rfl rfl rfl ?_
          exact ml_ret rfl (r_z (Or.inr rfl)) (⟨⟨_, rfl, Or.inr rfl⟩, rfl⟩)
        · have c_21 : ¬ ((nI (xe_lt lk).2.2.2.length) ≤ i16_3) := of_decide_eq_false c_21
          refine ml_blk 3 (S' := (27, [(0, .ref m0), (1, .int x1), (2, .ref (g.2.1 lk)), (3, .int i16_3)], [.int i16_3, .int x1, .ref m0], M)) rfl ?_
          refine ml_call (a := [.ref m0, .int x1, .int i16_3]) (rest := []) rfl (hR.okc rfl rfl rfl) rfl rfl (rm_at hR hY (hs0) (hs1) (hi_16) (by have q := i_nle c_21; rw [show (sL sl x1) = nI (xe_lt lk).2.2.2.length from c_9]; exact q) (by omega)) (fun v18 M19 h20 => ?_)
          obtain ⟨rfl, h20⟩ := h20
          rw [h20]
          show ml _ _ _ (30, [(0, .ref m0), (1, .int x1), (2, .ref (g.2.1 lk)), (3, .int i16_3)], [.int (tx sa ch x1 i16_3)], M) _
          refine ml_blk 2 (S' := (32, [(0, .ref m0), (1, .int x1), (2, .ref (g.2.1 lk)), (3, .int i16_3)], [.int i16_3, .ref (g.2.1 lk), .int (tx sa ch x1 i16_3)], M)) rfl ?_
          obtain ⟨fl21, hl22⟩ := hR.2.2.2.2.2 lk hlk
          refine ml_scat (lk := lk) (S' := (35, [(0, .ref m0), (1, .int x1), (2, .ref (g.2.1 lk)), (3, .int i16_3)], [.int (xe_ch lk (Int32.toNatClampNeg i16_3)), .int (tx sa ch x1 i16_3)], M)) rfl hl22 hlk.2 rfl (nlt0 hi_16) (by have q := i_nle c_21; have q2 := congrArg Int32.toInt (show (sL sl x1) = nI (xe_lt lk).2.2.2.length from c_9); show i16_3.toInt.toNat < _; have q3 : (nI (xe_lt lk).2.2.2.length).toInt ≤ ((xe_lt lk).2.2.2.length : Int) := nI_up; omega) rfl ?_
          refine ml_if2 (S1 := (40, [(0, .ref m0), (1, .int x1), (2, .ref (g.2.1 lk)), (3, .int i16_3)], [], M)) (S2 := (38, [(0, .ref m0), (1, .int x1), (2, .ref (g.2.1 lk)), (3, .int i16_3)], [], M)) rfl rfl rfl (fun c_35 => ?_) (fun c_35 => ?_)
          · have c_35 : (tx sa ch x1 i16_3) = (xe_ch lk (Int32.toNatClampNeg i16_3)) := of_decide_eq_true c_35
            refine ml_st (S' := (43, [(3, .int (i16_3 + 1)), (0, .ref m0), (1, .int x1), (2, .ref (g.2.1 lk))], [], M)) rfl rfl rfl ?_
            refine ml_st (S' := (16, [(0, .ref m0), (1, .int x1), (2, .ref (g.2.1 lk)), (3, .int (i16_3 + 1))], [], M)) rfl rfl rfl ?_
            exact ih_16 (i16_3 + 1) (loop_inc (Int32.not_le.mp c_21) hn_16) (by rw [inc_lt (Int32.not_le.mp c_21)]; omega)
          · have c_35 : ¬ ((tx sa ch x1 i16_3) = (xe_ch lk (Int32.toNatClampNeg i16_3))) := of_decide_eq_false c_35
            refine ml_st (S' := (39, [(0, .ref m0), (1, .int x1), (2, .ref (g.2.1 lk)), (3, .int i16_3)], [.int 0], M)) rfl rfl rfl ?_
            exact ml_ret rfl (r_z (Or.inl rfl)) (⟨⟨_, rfl, Or.inl rfl⟩, rfl⟩)
    exact L_16 _ 0 (Nat.le_refl _) (by decide)
  · have c_9 : ¬ ((sL sl x1) = (nI (xe_lt lk).2.2.2.length)) := of_decide_eq_false c_9
    refine ml_st (S' := (13, [(0, .ref m0), (1, .int x1), (2, .ref (g.2.1 lk))], [.int 0], M)) rfl rfl rfl ?_
    exact ml_ret rfl (r_z (Or.inl rfl)) (⟨⟨_, rfl, Or.inl rfl⟩, rfl⟩)
set_option maxHeartbeats 2000000 in
theorem rm_unqualified {g : xe_G}  {m0 : Nat} {q : Nat → Nat} {z : Nat × Nat} {I : rI} {R : rR} {M : mi_H} {x1 x2 : Int32} {S cN : Nat} {sa sl ch : Nat → Int32}  (hR : RS g m0 q z I R M) (hY : SK S cN sa sl ch I R) (hs0 : 0 ≤ x1.toInt) (hs1 : x1.toInt < S) {d : Nat} (hd : 2 ≤ d) : mt (mT g) d 252 [.ref m0, .int x1, .int x2] M (fun v M' => (∃ x : Int32, v = some (.int x) ∧ (x = 0 ∨ x = 1)) ∧ M' = M) := by
  obtain ⟨d, rfl⟩ : ∃ e, d = e + 1 := ⟨d - 1, by omega⟩
  refine mt_in (b := mb_252 g) rfl rfl ?_
  show ml (mT g) d (mb_252 g).2 (0, [(0, .ref m0), (1, .int x1), (2, .int x2)], [], M) _
  refine ml_blk 2 (S' := (2, [(0, .ref m0), (1, .int x1), (2, .int x2)], [.int x1, .ref m0], M)) rfl ?_
  refine ml_call (a := [.ref m0, .int x1]) (rest := []) rfl (hR.okc rfl rfl rfl) rfl rfl (rm_length hR hY (hs0) (hs1) (by omega)) (fun v11 M12 h13 => ?_)
  obtain ⟨rfl, h13⟩ := h13
  rw [h13]
  show ml _ _ _ (5, [(0, .ref m0), (1, .int x1), (2, .int x2)], [.int (sL sl x1)], M) _
  refine ml_st (S' := (6, [(3, .int (sL sl x1)), (0, .ref m0), (1, .int x1), (2, .int x2)], [], M)) rfl rfl rfl ?_
  refine ml_st (S' := (7, [(3, .int (sL sl x1)), (0, .ref m0), (1, .int x1), (2, .int x2)], [.int 0], M)) rfl rfl rfl ?_
  refine ml_st (S' := (9, [(0, .ref m0), (1, .int x1), (2, .int x2), (3, .int (sL sl x1)), (4, .int 0)], [], M)) rfl rfl rfl ?_
  have L_9 : ∀ (n_9 : Nat) (i9_4 : Int32), (2147483648 - i9_4.toInt).toNat ≤ n_9 → 0 ≤ i9_4.toInt → ml (mT g) d (mb_252 g).2 (9, [(0, .ref m0), (1, .int x1), (2, .int x2), (3, .int (sL sl x1)), (4, .int i9_4)], [], M) (fun v M' => (∃ x : Int32, v = some (.int x) ∧ (x = 0 ∨ x = 1)) ∧ M' = M) := by
    intro n_9
    induction n_9 with
    | zero => intro i9_4 hn; exact (loop_zero hn).elim
    | succ n_9 ih_9 =>
      intro i9_4 hn_9 hi_9
      refine ml_blk 2 (S' := (12, [(0, .ref m0), (1, .int x1), (2, .int x2), (3, .int (sL sl x1)), (4, .int i9_4)], [.int (sL sl x1), .int i9_4], M)) rfl ?_
      refine ml_if2 (S1 := (78, [(0, .ref m0), (1, .int x1), (2, .int x2), (3, .int (sL sl x1)), (4, .int i9_4)], [], M)) (S2 := (15, [(0, .ref m0), (1, .int x1), (2, .int x2), (3, .int (sL sl x1)), (4, .int i9_4)], [], M)) rfl rfl rfl (fun c_12 => ?_) (fun c_12 => ?_)
      · have c_12 : (sL sl x1) ≤ i9_4 := of_decide_eq_true c_12
        refine ml_st (S' := (79, [(0, .ref m0), (1, .int x1), (2, .int x2), (3, .int (sL sl x1)), (4, .int i9_4)], [.int (sL sl x1)], M)) rfl rfl rfl ?_
        refine ml_if (S1 := (86, [(0, .ref m0), (1, .int x1), (2, .int x2), (3, .int (sL sl x1)), (4, .int i9_4)], [], M)) (S2 := (82, [(0, .ref m0), (1, .int x1), (2, .int x2), (3, .int (sL sl x1)), (4, .int i9_4)], [], M)) rfl rfl rfl (fun c_79 => ?_) (fun c_79 => ?_)
        · have c_79 : (sL sl x1) ≤ 0 := of_decide_eq_true c_79
          refine ml_st (S' := (87, [], [.int 0], M)) rfl rfl rfl ?_
          exact ml_ret rfl (r_z (Or.inl rfl)) (⟨⟨_, rfl, Or.inl rfl⟩, rfl⟩)
        · have c_79 : ¬ ((sL sl x1) ≤ 0) := of_decide_eq_false c_79
          refine ml_st (S' := (83, [(0, .ref m0), (1, .int x1), (2, .int x2), (3, .int (sL sl x1)), (4, .int i9_4)], [.int 1], M)) rfl rfl rfl ?_
          refine ml_st (S' := (87, [], [.int 1], M)) rfl rfl rfl ?_
          exact ml_ret rfl (r_z (Or.inr rfl)) (⟨⟨_, rfl, Or.inr rfl⟩, rfl⟩)
      · have c_12 : ¬ ((sL sl x1) ≤ i9_4) := of_decide_eq_false c_12
        refine ml_blk 3 (S' := (19, [(0, .ref m0), (1, .int x1), (2, .int x2), (3, .int (sL sl x1)), (4, .int i9_4)], [.int i9_4, .int x1, .ref m0], M)) rfl ?_
        refine ml_call (a := [.ref m0, .int x1, .int i9_4]) (rest := []) rfl (hR.okc rfl rfl rfl) rfl rfl (rm_at hR hY (hs0) (hs1) (hi_9) (i_nle c_12) (by omega)) (fun v14 M15 h16 => ?_)
        obtain ⟨rfl, h16⟩ := h16
        rw [h16]
        show ml _ _ _ (22, [(0, .ref m0), (1, .int x1), (2, .int x2), (3, .int (sL sl x1)), (4, .int i9_4)], [.int (tx sa ch x1 i9_4)], M) _
        refine ml_st (S' := (24, [(5, .int (tx sa ch x1 i9_4)), (0, .ref m0), (1, .int x1), (2, .int x2), (3, .int (sL sl x1)), (4, .int i9_4)], [], M)) rfl rfl rfl ?_
        refine ml_blk 2 (S' := (28, [(5, .int (tx sa ch x1 i9_4)), (0, .ref m0), (1, .int x1), (2, .int x2), (3, .int (sL sl x1)), (4, .int i9_4)], [.int 46, .int (tx sa ch x1 i9_4)], M)) rfl ?_
        refine ml_if2 (S1 := (70, [], [], M)) (S2 := (31, [(5, .int (tx sa ch x1 i9_4)), (0, .ref m0), (1, .int x1), (2, .int x2), (3, .int (sL sl x1)), (4, .int i9_4)], [], M)) rfl rfl rfl (fun c_28 => ?_) (fun c_28 => ?_)
        · have c_28 : (tx sa ch x1 i9_4) = 46 := of_decide_eq_true c_28
          refine ml_st (S' := (71, [], [.int 0], M)) rfl rfl rfl ?_
          exact ml_ret rfl (r_z (Or.inl rfl)) (⟨⟨_, rfl, Or.inl rfl⟩, rfl⟩)
        · have c_28 : ¬ ((tx sa ch x1 i9_4) = 46) := of_decide_eq_false c_28
          refine ml_blk 2 (S' := (35, [(5, .int (tx sa ch x1 i9_4)), (0, .ref m0), (1, .int x1), (2, .int x2), (3, .int (sL sl x1)), (4, .int i9_4)], [.int 59, .int (tx sa ch x1 i9_4)], M)) rfl ?_
          refine ml_if2 (S1 := (70, [], [], M)) (S2 := (38, [(5, .int (tx sa ch x1 i9_4)), (0, .ref m0), (1, .int x1), (2, .int x2), (3, .int (sL sl x1)), (4, .int i9_4)], [], M)) rfl rfl rfl (fun c_35 => ?_) (fun c_35 => ?_)
          · have c_35 : (tx sa ch x1 i9_4) = 59 := of_decide_eq_true c_35
            refine ml_st (S' := (71, [], [.int 0], M)) rfl rfl rfl ?_
            exact ml_ret rfl (r_z (Or.inl rfl)) (⟨⟨_, rfl, Or.inl rfl⟩, rfl⟩)
          · have c_35 : ¬ ((tx sa ch x1 i9_4) = 59) := of_decide_eq_false c_35
            refine ml_blk 2 (S' := (42, [(5, .int (tx sa ch x1 i9_4)), (0, .ref m0), (1, .int x1), (2, .int x2), (3, .int (sL sl x1)), (4, .int i9_4)], [.int 91, .int (tx sa ch x1 i9_4)], M)) rfl ?_
            refine ml_if2 (S1 := (70, [], [], M)) (S2 := (45, [(5, .int (tx sa ch x1 i9_4)), (0, .ref m0), (1, .int x1), (2, .int x2), (3, .int (sL sl x1)), (4, .int i9_4)], [], M)) rfl rfl rfl (fun c_42 => ?_) (fun c_42 => ?_)
            · have c_42 : (tx sa ch x1 i9_4) = 91 := of_decide_eq_true c_42
              refine ml_st (S' := (71, [], [.int 0], M)) rfl rfl rfl ?_
              exact ml_ret rfl (r_z (Or.inl rfl)) (⟨⟨_, rfl, Or.inl rfl⟩, rfl⟩)
            · have c_42 : ¬ ((tx sa ch x1 i9_4) = 91) := of_decide_eq_false c_42
              refine ml_blk 2 (S' := (49, [(5, .int (tx sa ch x1 i9_4)), (0, .ref m0), (1, .int x1), (2, .int x2), (3, .int (sL sl x1)), (4, .int i9_4)], [.int 47, .int (tx sa ch x1 i9_4)], M)) rfl ?_
              refine ml_if2 (S1 := (70, [], [], M)) (S2 := (52, [(5, .int (tx sa ch x1 i9_4)), (0, .ref m0), (1, .int x1), (2, .int x2), (3, .int (sL sl x1)), (4, .int i9_4)], [], M)) rfl rfl rfl (fun c_49 => ?_) (fun c_49 => ?_)
              · have c_49 : (tx sa ch x1 i9_4) = 47 := of_decide_eq_true c_49
                refine ml_st (S' := (71, [], [.int 0], M)) rfl rfl rfl ?_
                exact ml_ret rfl (r_z (Or.inl rfl)) (⟨⟨_, rfl, Or.inl rfl⟩, rfl⟩)
              · have c_49 : ¬ ((tx sa ch x1 i9_4) = 47) := of_decide_eq_false c_49
                refine ml_st (S' := (53, [(5, .int (tx sa ch x1 i9_4)), (0, .ref m0), (1, .int x1), (2, .int x2), (3, .int (sL sl x1)), (4, .int i9_4)], [.int x2], M)) rfl rfl rfl ?_
                refine ml_if (S1 := (72, [(0, .ref m0), (1, .int x1), (2, .int x2), (3, .int (sL sl x1)), (4, .int i9_4)], [], M)) (S2 := (56, [(5, .int (tx sa ch x1 i9_4)), (0, .ref m0), (1, .int x1), (2, .int x2), (3, .int (sL sl x1)), (4, .int i9_4)], [], M)) rfl rfl rfl (fun c_53 => ?_) (fun c_53 => ?_)
                · have c_53 : ¬ x2 = 0 := of_decide_eq_true c_53
                  refine ml_st (S' := (75, [(4, .int (i9_4 + 1)), (0, .ref m0), (1, .int x1), (2, .int x2), (3, .int (sL sl x1))], [], M)) rfl rfl rfl ?_
                  refine ml_st (S' := (9, [(0, .ref m0), (1, .int x1), (2, .int x2), (3, .int (sL sl x1)), (4, .int (i9_4 + 1))], [], M)) rfl rfl rfl ?_
                  exact ih_9 (i9_4 + 1) (loop_inc (Int32.not_le.mp c_12) hn_9) (by rw [inc_lt (Int32.not_le.mp c_12)]; omega)
                · have c_53 : ¬ (¬ x2 = 0) := of_decide_eq_false c_53
                  refine ml_blk 2 (S' := (60, [(5, .int (tx sa ch x1 i9_4)), (0, .ref m0), (1, .int x1), (2, .int x2), (3, .int (sL sl x1)), (4, .int i9_4)], [.int 60, .int (tx sa ch x1 i9_4)], M)) rfl ?_
                  refine ml_if2 (S1 := (70, [], [], M)) (S2 := (63, [(5, .int (tx sa ch x1 i9_4)), (0, .ref m0), (1, .int x1), (2, .int x2), (3, .int (sL sl x1)), (4, .int i9_4)], [], M)) rfl rfl rfl (fun c_60 => ?_) (fun c_60 => ?_)
                  · have c_60 : (tx sa ch x1 i9_4) = 60 := of_decide_eq_true c_60
                    refine ml_st (S' := (71, [], [.int 0], M)) rfl rfl rfl ?_
                    exact ml_ret rfl (r_z (Or.inl rfl)) (⟨⟨_, rfl, Or.inl rfl⟩, rfl⟩)
                  · have c_60 : ¬ ((tx sa ch x1 i9_4) = 60) := of_decide_eq_false c_60
                    refine ml_blk 2 (S' := (67, [(5, .int (tx sa ch x1 i9_4)), (0, .ref m0), (1, .int x1), (2, .int x2), (3, .int (sL sl x1)), (4, .int i9_4)], [.int 62, .int (tx sa ch x1 i9_4)], M)) rfl ?_
                    refine ml_if2 (S1 := (72, [(0, .ref m0), (1, .int x1), (2, .int x2), (3, .int (sL sl x1)), (4, .int i9_4)], [], M)) (S2 := (70, [], [], M)) rfl rfl rfl (fun c_67 => ?_) (fun c_67 => ?_)
                    · have c_67 : ¬ (tx sa ch x1 i9_4) = 62 := of_decide_eq_true c_67
                      refine ml_st (S' := (75, [(4, .int (i9_4 + 1)), (0, .ref m0), (1, .int x1), (2, .int x2), (3, .int (sL sl x1))], [], M)) rfl rfl rfl ?_
                      refine ml_st (S' := (9, [(0, .ref m0), (1, .int x1), (2, .int x2), (3, .int (sL sl x1)), (4, .int (i9_4 + 1))], [], M)) rfl rfl rfl ?_
                      exact ih_9 (i9_4 + 1) (loop_inc (Int32.not_le.mp c_12) hn_9) (by rw [inc_lt (Int32.not_le.mp c_12)]; omega)
                    · have c_67 : ¬ (¬ (tx sa ch x1 i9_4) = 62) := of_decide_eq_false c_67
                      refine ml_st (S' := (71, [], [.int 0], M)) rfl rfl rfl ?_
                      exact ml_ret rfl (r_z (Or.inl rfl)) (⟨⟨_, rfl, Or.inl rfl⟩, rfl⟩)
  exact L_9 _ 0 (Nat.le_refl _) (by decide)
set_option maxHeartbeats 2000000 in
theorem rm_angles {g : xe_G}  {m0 : Nat} {q : Nat → Nat} {z : Nat × Nat} {I : rI} {R : rR} {M : mi_H} {x1 : Int32} {S cN : Nat} {sa sl ch : Nat → Int32}  (hR : RS g m0 q z I R M) (hY : SK S cN sa sl ch I R) (hs0 : 0 ≤ x1.toInt) (hs1 : x1.toInt < S) {d : Nat} (hd : 2 ≤ d) : mt (mT g) d 175 [.ref m0, .int x1] M (fun v M' => (∃ x : Int32, v = some (.int x) ∧ (x = 0 ∨ x = 1)) ∧ M' = M) := by
  obtain ⟨d, rfl⟩ : ∃ e, d = e + 1 := ⟨d - 1, by omega⟩
  refine mt_in (b := mb_175 g) rfl rfl ?_
  show ml (mT g) d (mb_175 g).2 (0, [(0, .ref m0), (1, .int x1)], [], M) _
  refine ml_st (S' := (1, [(0, .ref m0), (1, .int x1)], [.int 0], M)) rfl rfl rfl ?_
  refine ml_st (S' := (2, [(0, .ref m0), (1, .int x1), (2, .int 0)], [], M)) rfl rfl rfl ?_
  have L_2 : ∀ (n_2 : Nat) (i2_2 : Int32), (2147483648 - i2_2.toInt).toNat ≤ n_2 → 0 ≤ i2_2.toInt → ml (mT g) d (mb_175 g).2 (2, [(0, .ref m0), (1, .int x1), (2, .int i2_2)], [], M) (fun v M' => (∃ x : Int32, v = some (.int x) ∧ (x = 0 ∨ x = 1)) ∧ M' = M) := by
    intro n_2
    induction n_2 with
    | zero => intro i2_2 hn; exact (loop_zero hn).elim
    | succ n_2 ih_2 =>
      intro i2_2 hn_2 hi_2
      refine ml_blk 3 (S' := (5, [(0, .ref m0), (1, .int x1), (2, .int i2_2)], [.int x1, .ref m0, .int i2_2], M)) rfl ?_
      refine ml_call (a := [.ref m0, .int x1]) (rest := [.int i2_2]) rfl (hR.okc rfl rfl rfl) rfl rfl (rm_length hR hY (hs0) (hs1) (by omega)) (fun v11 M12 h13 => ?_)
      obtain ⟨rfl, h13⟩ := h13
      rw [h13]
      show ml _ _ _ (8, [(0, .ref m0), (1, .int x1), (2, .int i2_2)], [.int (sL sl x1), .int i2_2], M) _
      refine ml_if2 (S1 := (41, [(0, .ref m0), (1, .int x1), (2, .int i2_2)], [], M)) (S2 := (11, [(0, .ref m0), (1, .int x1), (2, .int i2_2)], [], M)) rfl rfl rfl (fun c_8 => ?_) (fun c_8 => ?_)
      · have c_8 : (sL sl x1) ≤ i2_2 := of_decide_eq_true c_8
        refine ml_st (S' := (42, [(0, .ref m0), (1, .int x1), (2, .int i2_2)], [.int 0], M)) rfl rfl rfl ?_
        exact ml_ret rfl (r_z (Or.inl rfl)) (⟨⟨_, rfl, Or.inl rfl⟩, rfl⟩)
      · have c_8 : ¬ ((sL sl x1) ≤ i2_2) := of_decide_eq_false c_8
        refine ml_blk 3 (S' := (14, [(0, .ref m0), (1, .int x1), (2, .int i2_2)], [.int i2_2, .int x1, .ref m0], M)) rfl ?_
        refine ml_call (a := [.ref m0, .int x1, .int i2_2]) (rest := []) rfl (hR.okc rfl rfl rfl) rfl rfl (rm_at hR hY (hs0) (hs1) (hi_2) (i_nle c_8) (by omega)) (fun v14 M15 h16 => ?_)
        obtain ⟨rfl, h16⟩ := h16
        rw [h16]
        show ml _ _ _ (17, [(0, .ref m0), (1, .int x1), (2, .int i2_2)], [.int (tx sa ch x1 i2_2)], M) _
        refine ml_st (S' := (19, [(0, .ref m0), (1, .int x1), (2, .int i2_2)], [.int 60, .int (tx sa ch x1 i2_2)], M)) rfl rfl rfl ?_
        refine ml_if2 (S1 := (33, [], [], M)) (S2 := (22, [(0, .ref m0), (1, .int x1), (2, .int i2_2)], [], M)) rfl rfl rfl (fun c_19 => ?_) (fun c_19 => ?_)
        · have c_19 : (tx sa ch x1 i2_2) = 60 := of_decide_eq_true c_19
          refine ml_st (S' := (34, [], [.int 1], M)) rfl rfl rfl ?_
          exact ml_ret rfl (r_z (Or.inr rfl)) (⟨⟨_, rfl, Or.inr rfl⟩, rfl⟩)
        · have c_19 : ¬ ((tx sa ch x1 i2_2) = 60) := of_decide_eq_false c_19
          refine ml_blk 3 (S' := (25, [(0, .ref m0), (1, .int x1), (2, .int i2_2)], [.int i2_2, .int x1, .ref m0], M)) rfl ?_
          refine ml_call (a := [.ref m0, .int x1, .int i2_2]) (rest := []) rfl (hR.okc rfl rfl rfl) rfl rfl (rm_at hR hY (hs0) (hs1) (hi_2) (i_nle c_8) (by omega)) (fun v17 M18 h19 => ?_)
          obtain ⟨rfl, h19⟩ := h19
          rw [h19]
          show ml _ _ _ (28, [(0, .ref m0), (1, .int x1), (2, .int i2_2)], [.int (tx sa ch x1 i2_2)], M) _
          refine ml_st (S' := (30, [(0, .ref m0), (1, .int x1), (2, .int i2_2)], [.int 62, .int (tx sa ch x1 i2_2)], M)) rfl rfl rfl ?_
          refine ml_if2 (S1 := (35, [(0, .ref m0), (1, .int x1), (2, .int i2_2)], [], M)) (S2 := (33, [], [], M)) rfl rfl rfl (fun c_30 => ?_) (fun c_30 => ?_)
          · have c_30 : ¬ (tx sa ch x1 i2_2) = 62 := of_decide_eq_true c_30
            refine ml_st (S' := (38, [(2, .int (i2_2 + 1)), (0, .ref m0), (1, .int x1)], [], M)) rfl rfl rfl ?_
            refine ml_st (S' := (2, [(0, .ref m0), (1, .int x1), (2, .int (i2_2 + 1))], [], M)) rfl rfl rfl ?_
            exact ih_2 (i2_2 + 1) (loop_inc (Int32.not_le.mp c_8) hn_2) (by rw [inc_lt (Int32.not_le.mp c_8)]; omega)
          · have c_30 : ¬ (¬ (tx sa ch x1 i2_2) = 62) := of_decide_eq_false c_30
            refine ml_st (S' := (34, [], [.int 1], M)) rfl rfl rfl ?_
            exact ml_ret rfl (r_z (Or.inr rfl)) (⟨⟨_, rfl, Or.inr rfl⟩, rfl⟩)
  exact L_2 _ 0 (Nat.le_refl _) (by decide)
set_option maxHeartbeats 2000000 in
theorem rm_nameText {g : xe_G}  {m0 : Nat} {q : Nat → Nat} {z : Nat × Nat} {I : rI} {R : rR} {M : mi_H} {x1 x2 x3 : Int32} {S cN : Nat} {sa sl ch : Nat → Int32}  (hR : RS g m0 q z I R M) (hY : SK S cN sa sl ch I R) (hs0 : 0 ≤ x1.toInt) (hs1 : x1.toInt < S) (h20 : 0 ≤ x2.toInt) (h231 : x2.toInt ≤ x3.toInt + 1) (h3n : x3.toInt ≤ (sL sl x1).toInt) {d : Nat} (hd : 2 ≤ d) : mt (mT g) d 226 [.ref m0, .int x1, .int x2, .int x3] M (fun v M' => v = some (.int (ntv (tx sa ch x1) x2 x3)) ∧ M' = M) := by
  obtain ⟨d, rfl⟩ : ∃ e, d = e + 1 := ⟨d - 1, by omega⟩
  refine mt_in (b := mb_226 g) rfl rfl ?_
  show ml (mT g) d (mb_226 g).2 (0, [(0, .ref m0), (1, .int x1), (2, .int x2), (3, .int x3)], [], M) _
  have hsl := hY.s hs0 hs1
  have hsl0 : 0 ≤ (sL sl x1).toInt := hsl.2.2.2.1
  have hsl1 : (sL sl x1).toInt ≤ 66000 := by have h1 := hsl.2.2.1; have h2 := hsl.2.2.2.2.1; have h3 := hsl.2.2.2.2.2.1; show (sl _).toInt ≤ 66000; omega
  refine ml_blk 3 (S' := (3, [(0, .ref m0), (1, .int x1), (2, .int x2), (3, .int x3)], [.int (x2 - 1)], M)) rfl ?_
  refine ml_st (S' := (5, [(4, .int (x2 - 1)), (0, .ref m0), (1, .int x1), (2, .int x2), (3, .int x3)], [], M)) rfl rfl rfl ?_
  refine ml_st (S' := (6, [(4, .int (x2 - 1)), (0, .ref m0), (1, .int x1), (2, .int x2), (3, .int x3)], [.int x2], M)) rfl rfl rfl ?_
  refine ml_st (S' := (8, [(0, .ref m0), (1, .int x1), (3, .int x3), (4, .int (x2 - 1)), (5, .int x2)], [], M)) rfl rfl rfl ?_
  have L_8 : ∀ (n_8 : Nat) (i8_4 : Int32) (i8_5 : Int32), (2147483648 - i8_5.toInt).toNat ≤ n_8 → (x2.toInt ≤ i8_5.toInt ∧ i8_5.toInt ≤ x3.toInt + 1 ∧ ntv (tx sa ch x1) x2 x3 = ntx (tx sa ch x1) x3 (ntf x3 i8_5) i8_5 i8_4) → ml (mT g) d (mb_226 g).2 (8, [(0, .ref m0), (1, .int x1), (3, .int x3), (4, .int i8_4), (5, .int i8_5)], [], M) (fun v M' => v = some (.int (ntv (tx sa ch x1) x2 x3)) ∧ M' = M) := by
    intro n_8
    induction n_8 with
    | zero => intro i8_4 i8_5 hn; exact (loop_zero hn).elim
    | succ n_8 ih_8 =>
      intro i8_4 i8_5 hn_8 hi_8
      obtain ⟨hk0, hk1, hnt⟩ := hi_8
      refine ml_blk 2 (S' := (11, [(0, .ref m0), (1, .int x1), (3, .int x3), (4, .int i8_4), (5, .int i8_5)], [.int x3, .int i8_5], M)) rfl ?_
      refine ml_if2 (S1 := (85, [(0, .ref m0), (1, .int x1), (3, .int x3), (4, .int i8_4), (5, .int i8_5)], [], M)) (S2 := (14, [(0, .ref m0), (1, .int x1), (3, .int x3), (4, .int i8_4), (5, .int i8_5)], [], M)) rfl rfl rfl (fun c_11 => ?_) (fun c_11 => ?_)
      · have c_11 : x3 < i8_5 := of_decide_eq_true c_11
        refine ml_st (S' := (86, [(0, .ref m0), (1, .int x1), (3, .int x3), (4, .int i8_4), (5, .int i8_5)], [.int 1], M)) rfl rfl rfl ?_
        exact ml_ret rfl (r_z (Or.inr rfl)) (⟨congrArg (fun y => some (Value.int y)) (hnt.trans (ntx_end c_11)).symm, rfl⟩)
      · have c_11 : ¬ (x3 < i8_5) := of_decide_eq_false c_11
        have hks : (i8_5 + 1).toInt = i8_5.toInt + 1 := i_add (by have : (1 : Int32).toInt = 1 := rfl; omega) (by have : (1 : Int32).toInt = 1 := rfl; have := i_nlt c_11; omega)
        rw [ntf_s c_11 hks] at hnt
        refine ml_blk 2 (S' := (17, [(0, .ref m0), (1, .int x1), (3, .int x3), (4, .int i8_4), (5, .int i8_5)], [.int x3, .int i8_5], M)) rfl ?_
        have J_32 : ∀ (s32_0 : Int32), (s32_0 = (if i8_5 < x3 then (tx sa ch x1) i8_5 else 47)) → ml (mT g) d (mb_226 g).2 (32, [(0, .ref m0), (1, .int x1), (3, .int x3), (4, .int i8_4), (5, .int i8_5)], [.int s32_0], M) (fun v M' => v = some (.int (ntv (tx sa ch x1) x2 x3)) ∧ M' = M) := by
          intro s32_0 hj_32
          refine ml_st (S' := (34, [(6, .int s32_0), (0, .ref m0), (1, .int x1), (3, .int x3), (4, .int i8_4), (5, .int i8_5)], [], M)) rfl rfl rfl ?_
          refine ml_blk 2 (S' := (38, [(6, .int s32_0), (0, .ref m0), (1, .int x1), (3, .int x3), (4, .int i8_4), (5, .int i8_5)], [.int 46, .int s32_0], M)) rfl ?_
          refine ml_if2 (S1 := (55, [], [], M)) (S2 := (41, [(6, .int s32_0), (0, .ref m0), (1, .int x1), (3, .int x3), (4, .int i8_4), (5, .int i8_5)], [], M)) rfl rfl rfl (fun c_38 => ?_) (fun c_38 => ?_)
          · have c_38 : s32_0 = 46 := of_decide_eq_true c_38
            refine ml_st (S' := (56, [], [.int 0], M)) rfl rfl rfl ?_
            exact ml_ret rfl (r_z (Or.inl rfl)) (⟨congrArg (fun y => some (Value.int y)) (hnt.trans (ntx_bad c_11 hj_32 (Or.inl c_38))).symm, rfl⟩)
          · have c_38 : ¬ (s32_0 = 46) := of_decide_eq_false c_38
            refine ml_blk 2 (S' := (45, [(6, .int s32_0), (0, .ref m0), (1, .int x1), (3, .int x3), (4, .int i8_4), (5, .int i8_5)], [.int 59, .int s32_0], M)) rfl ?_
            refine ml_if2 (S1 := (55, [], [], M)) (S2 := (48, [(6, .int s32_0), (0, .ref m0), (1, .int x1), (3, .int x3), (4, .int i8_4), (5, .int i8_5)], [], M)) rfl rfl rfl (fun c_45 => ?_) (fun c_45 => ?_)
            · have c_45 : s32_0 = 59 := of_decide_eq_true c_45
              refine ml_st (S' := (56, [], [.int 0], M)) rfl rfl rfl ?_
              exact ml_ret rfl (r_z (Or.inl rfl)) (⟨congrArg (fun y => some (Value.int y)) (hnt.trans (ntx_bad c_11 hj_32 (Or.inr (Or.inl c_45)))).symm, rfl⟩)
            · have c_45 : ¬ (s32_0 = 59) := of_decide_eq_false c_45
              refine ml_blk 2 (S' := (52, [(6, .int s32_0), (0, .ref m0), (1, .int x1), (3, .int x3), (4, .int i8_4), (5, .int i8_5)], [.int 91, .int s32_0], M)) rfl ?_
              refine ml_if2 (S1 := (57, [(6, .int s32_0), (0, .ref m0), (1, .int x1), (3, .int x3), (4, .int i8_4), (5, .int i8_5)], [], M)) (S2 := (55, [], [], M)) rfl rfl rfl (fun c_52 => ?_) (fun c_52 => ?_)
              · have c_52 : ¬ s32_0 = 91 := of_decide_eq_true c_52
                refine ml_blk 2 (S' := (61, [(6, .int s32_0), (0, .ref m0), (1, .int x1), (3, .int x3), (4, .int i8_4), (5, .int i8_5)], [.int 47, .int s32_0], M)) rfl ?_
                refine ml_if2 (S1 := (79, [(0, .ref m0), (1, .int x1), (3, .int x3), (4, .int i8_4), (5, .int i8_5)], [], M)) (S2 := (64, [(6, .int s32_0), (0, .ref m0), (1, .int x1), (3, .int x3), (4, .int i8_4), (5, .int i8_5)], [], M)) rfl rfl rfl (fun c_61 => ?_) (fun c_61 => ?_)
                · have c_61 : ¬ s32_0 = 47 := of_decide_eq_true c_61
                  refine ml_st (S' := (82, [(5, .int (i8_5 + 1)), (0, .ref m0), (1, .int x1), (3, .int x3), (4, .int i8_4)], [], M)) rfl rfl rfl ?_
                  refine ml_st (S' := (8, [(0, .ref m0), (1, .int x1), (3, .int x3), (4, .int i8_4), (5, .int (i8_5 + 1))], [], M)) rfl rfl rfl ?_
                  exact ih_8 i8_4 (i8_5 + 1) (by rw [hks]; omega) (⟨by rw [hks]; omega, by rw [hks]; have := i_nlt c_11; omega, hnt.trans (ntx_go c_11 hj_32 (fun h => h.elim c_38 (fun h => h.elim c_45 c_52)) c_61)⟩)
                · have c_61 : ¬ (¬ s32_0 = 47) := of_decide_eq_false c_61
                  refine ml_blk 3 (S' := (69, [(6, .int s32_0), (0, .ref m0), (1, .int x1), (3, .int x3), (4, .int i8_4), (5, .int i8_5)], [.int 1, .int i8_4, .int i8_5], M)) rfl ?_
                  refine ml_st (S' := (70, [(6, .int s32_0), (0, .ref m0), (1, .int x1), (3, .int x3), (4, .int i8_4), (5, .int i8_5)], [.int (i8_4 + 1), .int i8_5], M)) rfl rfl rfl ?_
                  refine ml_if2 (S1 := (75, [(6, .int s32_0), (0, .ref m0), (1, .int x1), (3, .int x3), (4, .int i8_4), (5, .int i8_5)], [], M)) (S2 := (73, [(6, .int s32_0), (0, .ref m0), (1, .int x1), (3, .int x3), (4, .int i8_4), (5, .int i8_5)], [], M)) rfl rfl rfl (fun c_70 => ?_) (fun c_70 => ?_)
                  · have c_70 : ¬ i8_5 = (i8_4 + 1) := of_decide_eq_true c_70
                    refine ml_st (S' := (77, [(6, .int s32_0), (0, .ref m0), (1, .int x1), (3, .int x3), (4, .int i8_4), (5, .int i8_5)], [.int i8_5], M)) rfl rfl rfl ?_
                    refine ml_st (S' := (79, [(0, .ref m0), (1, .int x1), (3, .int x3), (4, .int i8_5), (5, .int i8_5)], [], M)) rfl rfl rfl ?_
                    refine ml_st (S' := (82, [(5, .int (i8_5 + 1)), (0, .ref m0), (1, .int x1), (3, .int x3), (4, .int i8_5)], [], M)) rfl rfl rfl ?_
                    refine ml_st (S' := (8, [(0, .ref m0), (1, .int x1), (3, .int x3), (4, .int i8_5), (5, .int (i8_5 + 1))], [], M)) rfl rfl rfl ?_
                    exact ih_8 i8_5 (i8_5 + 1) (by rw [hks]; omega) (⟨by rw [hks]; omega, by rw [hks]; have := i_nlt c_11; omega, hnt.trans (ntx_sep c_11 hj_32 (fun h => h.elim c_38 (fun h => h.elim c_45 c_52)) (Decidable.not_not.mp c_61) c_70)⟩)
                  · have c_70 : ¬ (¬ i8_5 = (i8_4 + 1)) := of_decide_eq_false c_70
                    refine ml_st (S' := (74, [(6, .int s32_0), (0, .ref m0), (1, .int x1), (3, .int x3), (4, .int i8_4), (5, .int i8_5)], [.int 0], M)) rfl rfl rfl ?_
                    exact ml_ret rfl (r_z (Or.inl rfl)) (⟨congrArg (fun y => some (Value.int y)) (hnt.trans (ntx_dbl c_11 hj_32 (fun h => h.elim c_38 (fun h => h.elim c_45 c_52)) (Decidable.not_not.mp c_61) (Decidable.not_not.mp c_70))).symm, rfl⟩)
              · have c_52 : ¬ (¬ s32_0 = 91) := of_decide_eq_false c_52
                refine ml_st (S' := (56, [], [.int 0], M)) rfl rfl rfl ?_
                exact ml_ret rfl (r_z (Or.inl rfl)) (⟨congrArg (fun y => some (Value.int y)) (hnt.trans (ntx_bad c_11 hj_32 (Or.inr (Or.inr (Decidable.not_not.mp c_52))))).symm, rfl⟩)
        refine ml_if2 (S1 := (30, [(0, .ref m0), (1, .int x1), (3, .int x3), (4, .int i8_4), (5, .int i8_5)], [], M)) (S2 := (20, [(0, .ref m0), (1, .int x1), (3, .int x3), (4, .int i8_4), (5, .int i8_5)], [], M)) rfl rfl rfl (fun c_17 => ?_) (fun c_17 => ?_)
        · have c_17 : x3 ≤ i8_5 := of_decide_eq_true c_17
          refine ml_st (S' := (32, [(0, .ref m0), (1, .int x1), (3, .int x3), (4, .int i8_4), (5, .int i8_5)], [.int 47], M)) rfl rfl rfl ?_
          exact J_32 47 ((if_neg (Int32.not_lt.mpr c_17)).symm)
        · have c_17 : ¬ (x3 ≤ i8_5) := of_decide_eq_false c_17
          refine ml_blk 3 (S' := (24, [(0, .ref m0), (1, .int x1), (3, .int x3), (4, .int i8_4), (5, .int i8_5)], [.int i8_5, .int x1, .ref m0], M)) rfl ?_
          refine ml_call (a := [.ref m0, .int x1, .int i8_5]) (rest := []) rfl (hR.okc rfl rfl rfl) rfl rfl (rm_at hR hY (hs0) (hs1) (by omega) (by have := i_nle c_17; omega) (by omega)) (fun v11 M12 h13 => ?_)
          obtain ⟨rfl, h13⟩ := h13
          rw [h13]
          show ml _ _ _ (27, [(0, .ref m0), (1, .int x1), (3, .int x3), (4, .int i8_4), (5, .int i8_5)], [.int (tx sa ch x1 i8_5)], M) _
          refine ml_st (S' := (32, [(0, .ref m0), (1, .int x1), (3, .int x3), (4, .int i8_4), (5, .int i8_5)], [.int (tx sa ch x1 i8_5)], M)) rfl rfl rfl ?_
          exact J_32 (tx sa ch x1 i8_5) ((if_pos (Int32.not_le.mp c_17)).symm)
  exact L_8 _ (x2 - 1) x2 (Nat.le_refl _) (⟨Int.le_refl _, h231, rfl⟩)
set_option maxHeartbeats 2000000 in
theorem rm_fieldText {g : xe_G}  {m0 : Nat} {q : Nat → Nat} {z : Nat × Nat} {I : rI} {R : rR} {M : mi_H} {x1 x2 : Int32} {S cN : Nat} {sa sl ch : Nat → Int32}  (hR : RS g m0 q z I R M) (hY : SK S cN sa sl ch I R) (hs0 : 0 ≤ x1.toInt) (hs1 : x1.toInt < S) (h20 : 0 ≤ x2.toInt) (h2n : x2.toInt ≤ (sL sl x1).toInt) {d : Nat} (hd : 3 ≤ d) : mt (mT g) d 206 [.ref m0, .int x1, .int x2] M (fun v M' => v = some (.int (FTx (tx sa ch x1) (sL sl x1) x2)) ∧ M' = M) := by
  obtain ⟨d, rfl⟩ : ∃ e, d = e + 1 := ⟨d - 1, by omega⟩
  refine mt_in (b := mb_206 g) rfl rfl ?_
  show ml (mT g) d (mb_206 g).2 (0, [(0, .ref m0), (1, .int x1), (2, .int x2)], [], M) _
  have hsl := hY.s hs0 hs1
  have hsl0 : 0 ≤ (sL sl x1).toInt := hsl.2.2.2.1
  have hsl1 : (sL sl x1).toInt ≤ 66000 := by have h1 := hsl.2.2.1; have h2 := hsl.2.2.2.2.1; have h3 := hsl.2.2.2.2.2.1; show (sl _).toInt ≤ 66000; omega
  refine ml_blk 2 (S' := (2, [(0, .ref m0), (1, .int x1), (2, .int x2)], [.int x1, .ref m0], M)) rfl ?_
  refine ml_call (a := [.ref m0, .int x1]) (rest := []) rfl (hR.okc rfl rfl rfl) rfl rfl (rm_length hR hY (hs0) (hs1) (by omega)) (fun v11 M12 h13 => ?_)
  obtain ⟨rfl, h13⟩ := h13
  rw [h13]
  show ml _ _ _ (5, [(0, .ref m0), (1, .int x1), (2, .int x2)], [.int (sL sl x1)], M) _
  refine ml_st (S' := (6, [(3, .int (sL sl x1)), (0, .ref m0), (1, .int x1), (2, .int x2)], [], M)) rfl rfl rfl ?_
  refine ml_st (S' := (7, [(3, .int (sL sl x1)), (0, .ref m0), (1, .int x1), (2, .int x2)], [.int x2], M)) rfl rfl rfl ?_
  refine ml_st (S' := (9, [(0, .ref m0), (1, .int x1), (2, .int x2), (3, .int (sL sl x1)), (4, .int x2)], [], M)) rfl rfl rfl ?_
  have L_9 : ∀ (n_9 : Nat) (i9_4 : Int32), (2147483648 - i9_4.toInt).toNat ≤ n_9 → (x2.toInt ≤ i9_4.toInt ∧ i9_4.toInt ≤ (sL sl x1).toInt ∧ scn (PL1 (tx sa ch x1)) (sL sl x1) (scf (sL sl x1) x2) x2 = scn (PL1 (tx sa ch x1)) (sL sl x1) (scf (sL sl x1) i9_4) i9_4) → ml (mT g) d (mb_206 g).2 (9, [(0, .ref m0), (1, .int x1), (2, .int x2), (3, .int (sL sl x1)), (4, .int i9_4)], [], M) (fun v M' => v = some (.int (FTx (tx sa ch x1) (sL sl x1) x2)) ∧ M' = M) := by
    intro n_9
    induction n_9 with
    | zero => intro i9_4 hn; exact (loop_zero hn).elim
    | succ n_9 ih_9 =>
      intro i9_4 hn_9 hi_9
      obtain ⟨hk0, hk1, hsc⟩ := hi_9
      refine ml_blk 2 (S' := (12, [(0, .ref m0), (1, .int x1), (2, .int x2), (3, .int (sL sl x1)), (4, .int i9_4)], [.int (sL sl x1), .int i9_4], M)) rfl ?_
      have J_33 : (scn (PL1 (tx sa ch x1)) (sL sl x1) (scf (sL sl x1) x2) x2 = i9_4) → ml (mT g) d (mb_206 g).2 (33, [(0, .ref m0), (1, .int x1), (2, .int x2), (3, .int (sL sl x1)), (4, .int i9_4)], [], M) (fun v M' => v = some (.int (FTx (tx sa ch x1) (sL sl x1) x2)) ∧ M' = M) := by
        intro hj_33
        refine ml_blk 3 (S' := (37, [(0, .ref m0), (1, .int x1), (2, .int x2), (3, .int (sL sl x1)), (4, .int i9_4)], [.int (i9_4 - x2)], M)) rfl ?_
        refine ml_st (S' := (40, [(0, .ref m0), (1, .int x1), (2, .int x2), (3, .int (sL sl x1)), (4, .int i9_4)], [.int 255, .int (i9_4 - x2)], M)) rfl rfl rfl ?_
        refine ml_if2 (S1 := (49, [], [], M)) (S2 := (43, [(0, .ref m0), (1, .int x1), (2, .int x2), (3, .int (sL sl x1)), (4, .int i9_4)], [], M)) rfl rfl rfl (fun c_40 => ?_) (fun c_40 => ?_)
        · have c_40 : 255 < (i9_4 - x2) := of_decide_eq_true c_40
          refine ml_st (S' := (50, [], [.int (-1)], M)) rfl rfl rfl ?_
          exact ml_ret rfl (rfl) (⟨congrArg (fun y => some (Value.int y)) (ft_1 hj_33 (Or.inl c_40)), rfl⟩)
        · have c_40 : ¬ (255 < (i9_4 - x2)) := of_decide_eq_false c_40
          refine ml_blk 2 (S' := (46, [(0, .ref m0), (1, .int x1), (2, .int x2), (3, .int (sL sl x1)), (4, .int i9_4)], [.int (sL sl x1), .int i9_4], M)) rfl ?_
          refine ml_if2 (S1 := (51, [(0, .ref m0), (1, .int x1), (2, .int x2), (3, .int (sL sl x1)), (4, .int i9_4)], [], M)) (S2 := (49, [], [], M)) rfl rfl rfl (fun c_46 => ?_) (fun c_46 => ?_)
          · have c_46 : i9_4 < (sL sl x1) := of_decide_eq_true c_46
            have hnb : ¬ (255 < i9_4 - x2 ∨ (sL sl x1) ≤ i9_4) := fun h => h.elim c_40 (Int32.not_le.mpr c_46)
            refine ml_blk 3 (S' := (55, [(0, .ref m0), (1, .int x1), (2, .int x2), (3, .int (sL sl x1)), (4, .int i9_4)], [.int i9_4, .int x1, .ref m0], M)) rfl ?_
            refine ml_call (a := [.ref m0, .int x1, .int i9_4]) (rest := []) rfl (hR.okc rfl rfl rfl) rfl rfl (rm_at hR hY (hs0) (hs1) (by omega) (i_lt c_46) (by omega)) (fun v14 M15 h16 => ?_)
            obtain ⟨rfl, h16⟩ := h16
            rw [h16]
            show ml _ _ _ (58, [(0, .ref m0), (1, .int x1), (2, .int x2), (3, .int (sL sl x1)), (4, .int i9_4)], [.int (tx sa ch x1 i9_4)], M) _
            refine ml_st (S' := (60, [(5, .int (tx sa ch x1 i9_4)), (0, .ref m0), (1, .int x1), (2, .int x2), (3, .int (sL sl x1)), (4, .int i9_4)], [], M)) rfl rfl rfl ?_
            refine ml_blk 2 (S' := (64, [(5, .int (tx sa ch x1 i9_4)), (0, .ref m0), (1, .int x1), (2, .int x2), (3, .int (sL sl x1)), (4, .int i9_4)], [.int 66, .int (tx sa ch x1 i9_4)], M)) rfl ?_
            refine ml_if2 (S1 := (116, [(4, .int i9_4)], [], M)) (S2 := (67, [(5, .int (tx sa ch x1 i9_4)), (0, .ref m0), (1, .int x1), (2, .int x2), (3, .int (sL sl x1)), (4, .int i9_4)], [], M)) rfl rfl rfl (fun c_64 => ?_) (fun c_64 => ?_)
            · have c_64 : (tx sa ch x1 i9_4) = 66 := of_decide_eq_true c_64
              refine ml_blk 3 (S' := (120, [(4, .int i9_4)], [.int (i9_4 + 1)], M)) rfl ?_
              exact ml_ret rfl (rfl) (⟨congrArg (fun y => some (Value.int y)) (ft_p hj_33 hnb (Or.inl c_64)), rfl⟩)
            · have c_64 : ¬ ((tx sa ch x1 i9_4) = 66) := of_decide_eq_false c_64
              refine ml_blk 2 (S' := (71, [(5, .int (tx sa ch x1 i9_4)), (0, .ref m0), (1, .int x1), (2, .int x2), (3, .int (sL sl x1)), (4, .int i9_4)], [.int 67, .int (tx sa ch x1 i9_4)], M)) rfl ?_
              refine ml_if2 (S1 := (116, [(4, .int i9_4)], [], M)) (S2 := (74, [(5, .int (tx sa ch x1 i9_4)), (0, .ref m0), (1, .int x1), (2, .int x2), (3, .int (sL sl x1)), (4, .int i9_4)], [], M)) rfl rfl rfl (fun c_71 => ?_) (fun c_71 => ?_)
              · have c_71 : (tx sa ch x1 i9_4) = 67 := of_decide_eq_true c_71
                refine ml_blk 3 (S' := (120, [(4, .int i9_4)], [.int (i9_4 + 1)], M)) rfl ?_
                exact ml_ret rfl (rfl) (⟨congrArg (fun y => some (Value.int y)) (ft_p hj_33 hnb (Or.inr (Or.inl (c_71)))), rfl⟩)
              · have c_71 : ¬ ((tx sa ch x1 i9_4) = 67) := of_decide_eq_false c_71
                refine ml_blk 2 (S' := (78, [(5, .int (tx sa ch x1 i9_4)), (0, .ref m0), (1, .int x1), (2, .int x2), (3, .int (sL sl x1)), (4, .int i9_4)], [.int 68, .int (tx sa ch x1 i9_4)], M)) rfl ?_
                refine ml_if2 (S1 := (116, [(4, .int i9_4)], [], M)) (S2 := (81, [(5, .int (tx sa ch x1 i9_4)), (0, .ref m0), (1, .int x1), (2, .int x2), (3, .int (sL sl x1)), (4, .int i9_4)], [], M)) rfl rfl rfl (fun c_78 => ?_) (fun c_78 => ?_)
                · have c_78 : (tx sa ch x1 i9_4) = 68 := of_decide_eq_true c_78
                  refine ml_blk 3 (S' := (120, [(4, .int i9_4)], [.int (i9_4 + 1)], M)) rfl ?_
                  exact ml_ret rfl (rfl) (⟨congrArg (fun y => some (Value.int y)) (ft_p hj_33 hnb (Or.inr (Or.inr (Or.inl (c_78))))), rfl⟩)
                · have c_78 : ¬ ((tx sa ch x1 i9_4) = 68) := of_decide_eq_false c_78
                  refine ml_blk 2 (S' := (85, [(5, .int (tx sa ch x1 i9_4)), (0, .ref m0), (1, .int x1), (2, .int x2), (3, .int (sL sl x1)), (4, .int i9_4)], [.int 70, .int (tx sa ch x1 i9_4)], M)) rfl ?_
                  refine ml_if2 (S1 := (116, [(4, .int i9_4)], [], M)) (S2 := (88, [(5, .int (tx sa ch x1 i9_4)), (0, .ref m0), (1, .int x1), (2, .int x2), (3, .int (sL sl x1)), (4, .int i9_4)], [], M)) rfl rfl rfl (fun c_85 => ?_) (fun c_85 => ?_)
                  · have c_85 : (tx sa ch x1 i9_4) = 70 := of_decide_eq_true c_85
                    refine ml_blk 3 (S' := (120, [(4, .int i9_4)], [.int (i9_4 + 1)], M)) rfl ?_
                    exact ml_ret rfl (rfl) (⟨congrArg (fun y => some (Value.int y)) (ft_p hj_33 hnb (Or.inr (Or.inr (Or.inr (Or.inl (c_85)))))), rfl⟩)
                  · have c_85 : ¬ ((tx sa ch x1 i9_4) = 70) := of_decide_eq_false c_85
                    refine ml_blk 2 (S' := (92, [(5, .int (tx sa ch x1 i9_4)), (0, .ref m0), (1, .int x1), (2, .int x2), (3, .int (sL sl x1)), (4, .int i9_4)], [.int 73, .int (tx sa ch x1 i9_4)], M)) rfl ?_
                    refine ml_if2 (S1 := (116, [(4, .int i9_4)], [], M)) (S2 := (95, [(5, .int (tx sa ch x1 i9_4)), (0, .ref m0), (1, .int x1), (2, .int x2), (3, .int (sL sl x1)), (4, .int i9_4)], [], M)) rfl rfl rfl (fun c_92 => ?_) (fun c_92 => ?_)
                    · have c_92 : (tx sa ch x1 i9_4) = 73 := of_decide_eq_true c_92
                      refine ml_blk 3 (S' := (120, [(4, .int i9_4)], [.int (i9_4 + 1)], M)) rfl ?_
                      exact ml_ret rfl (rfl) (⟨congrArg (fun y => some (Value.int y)) (ft_p hj_33 hnb (Or.inr (Or.inr (Or.inr (Or.inr (Or.inl (c_92))))))), rfl⟩)
                    · have c_92 : ¬ ((tx sa ch x1 i9_4) = 73) := of_decide_eq_false c_92
                      refine ml_blk 2 (S' := (99, [(5, .int (tx sa ch x1 i9_4)), (0, .ref m0), (1, .int x1), (2, .int x2), (3, .int (sL sl x1)), (4, .int i9_4)], [.int 74, .int (tx sa ch x1 i9_4)], M)) rfl ?_
                      refine ml_if2 (S1 := (116, [(4, .int i9_4)], [], M)) (S2 := (102, [(5, .int (tx sa ch x1 i9_4)), (0, .ref m0), (1, .int x1), (2, .int x2), (3, .int (sL sl x1)), (4, .int i9_4)], [], M)) rfl rfl rfl (fun c_99 => ?_) (fun c_99 => ?_)
                      · have c_99 : (tx sa ch x1 i9_4) = 74 := of_decide_eq_true c_99
                        refine ml_blk 3 (S' := (120, [(4, .int i9_4)], [.int (i9_4 + 1)], M)) rfl ?_
                        exact ml_ret rfl (rfl) (⟨congrArg (fun y => some (Value.int y)) (ft_p hj_33 hnb (Or.inr (Or.inr (Or.inr (Or.inr (Or.inr (Or.inl (c_99)))))))), rfl⟩)
                      · have c_99 : ¬ ((tx sa ch x1 i9_4) = 74) := of_decide_eq_false c_99
                        refine ml_blk 2 (S' := (106, [(5, .int (tx sa ch x1 i9_4)), (0, .ref m0), (1, .int x1), (2, .int x2), (3, .int (sL sl x1)), (4, .int i9_4)], [.int 83, .int (tx sa ch x1 i9_4)], M)) rfl ?_
                        refine ml_if2 (S1 := (116, [(4, .int i9_4)], [], M)) (S2 := (109, [(5, .int (tx sa ch x1 i9_4)), (0, .ref m0), (1, .int x1), (2, .int x2), (3, .int (sL sl x1)), (4, .int i9_4)], [], M)) rfl rfl rfl (fun c_106 => ?_) (fun c_106 => ?_)
                        · have c_106 : (tx sa ch x1 i9_4) = 83 := of_decide_eq_true c_106
                          refine ml_blk 3 (S' := (120, [(4, .int i9_4)], [.int (i9_4 + 1)], M)) rfl ?_
                          exact ml_ret rfl (rfl) (⟨congrArg (fun y => some (Value.int y)) (ft_p hj_33 hnb (Or.inr (Or.inr (Or.inr (Or.inr (Or.inr (Or.inr (Or.inl (c_106))))))))), rfl⟩)
                        · have c_106 : ¬ ((tx sa ch x1 i9_4) = 83) := of_decide_eq_false c_106
                          refine ml_blk 2 (S' := (113, [(5, .int (tx sa ch x1 i9_4)), (0, .ref m0), (1, .int x1), (2, .int x2), (3, .int (sL sl x1)), (4, .int i9_4)], [.int 90, .int (tx sa ch x1 i9_4)], M)) rfl ?_
                          refine ml_if2 (S1 := (121, [(5, .int (tx sa ch x1 i9_4)), (0, .ref m0), (1, .int x1), (2, .int x2), (3, .int (sL sl x1)), (4, .int i9_4)], [], M)) (S2 := (116, [(4, .int i9_4)], [], M)) rfl rfl rfl (fun c_113 => ?_) (fun c_113 => ?_)
                          · have c_113 : ¬ (tx sa ch x1 i9_4) = 90 := of_decide_eq_true c_113
                            refine ml_blk 2 (S' := (125, [(5, .int (tx sa ch x1 i9_4)), (0, .ref m0), (1, .int x1), (2, .int x2), (3, .int (sL sl x1)), (4, .int i9_4)], [.int 76, .int (tx sa ch x1 i9_4)], M)) rfl ?_
                            refine ml_if2 (S1 := (130, [(5, .int (tx sa ch x1 i9_4)), (0, .ref m0), (1, .int x1), (2, .int x2), (3, .int (sL sl x1)), (4, .int i9_4)], [], M)) (S2 := (128, [(5, .int (tx sa ch x1 i9_4)), (0, .ref m0), (1, .int x1), (2, .int x2), (3, .int (sL sl x1)), (4, .int i9_4)], [], M)) rfl rfl rfl (fun c_125 => ?_) (fun c_125 => ?_)
                            · have c_125 : (tx sa ch x1 i9_4) = 76 := of_decide_eq_true c_125
                              have hkn := i_lt c_46
                              have hk4 : (i9_4 + 1).toInt = i9_4.toInt + 1 := inc_lt c_46
                              refine ml_blk 3 (S' := (134, [(5, .int (tx sa ch x1 i9_4)), (0, .ref m0), (1, .int x1), (2, .int x2), (3, .int (sL sl x1)), (4, .int i9_4)], [.int (i9_4 + 1)], M)) rfl ?_
                              refine ml_st (S' := (136, [(0, .ref m0), (1, .int x1), (3, .int (sL sl x1)), (4, .int i9_4), (6, .int (i9_4 + 1))], [], M)) rfl rfl rfl ?_
                              have L_136 : ∀ (n_136 : Nat) (i136_6 : Int32), (2147483648 - i136_6.toInt).toNat ≤ n_136 → (i9_4.toInt + 1 ≤ i136_6.toInt ∧ i136_6.toInt ≤ (sL sl x1).toInt ∧ scn (PL2 (tx sa ch x1)) (sL sl x1) (scf (sL sl x1) (i9_4 + 1)) (i9_4 + 1) = scn (PL2 (tx sa ch x1)) (sL sl x1) (scf (sL sl x1) i136_6) i136_6) → ml (mT g) d (mb_206 g).2 (136, [(0, .ref m0), (1, .int x1), (3, .int (sL sl x1)), (4, .int i9_4), (6, .int i136_6)], [], M) (fun v M' => v = some (.int (FTx (tx sa ch x1) (sL sl x1) x2)) ∧ M' = M) := by
                                intro n_136
                                induction n_136 with
                                | zero => intro i136_6 hn; exact (loop_zero hn).elim
                                | succ n_136 ih_136 =>
                                  intro i136_6 hn_136 hi_136
                                  obtain ⟨he0, he1, hse⟩ := hi_136
                                  refine ml_blk 2 (S' := (139, [(0, .ref m0), (1, .int x1), (3, .int (sL sl x1)), (4, .int i9_4), (6, .int i136_6)], [.int (sL sl x1), .int i136_6], M)) rfl ?_
                                  have J_160 : (scn (PL2 (tx sa ch x1)) (sL sl x1) (scf (sL sl x1) (i9_4 + 1)) (i9_4 + 1) = i136_6) → ml (mT g) d (mb_206 g).2 (160, [(0, .ref m0), (1, .int x1), (3, .int (sL sl x1)), (4, .int i9_4), (6, .int i136_6)], [], M) (fun v M' => v = some (.int (FTx (tx sa ch x1) (sL sl x1) x2)) ∧ M' = M) := by
                                    intro hj_160
                                    refine ml_blk 2 (S' := (163, [(0, .ref m0), (1, .int x1), (3, .int (sL sl x1)), (4, .int i9_4), (6, .int i136_6)], [.int (sL sl x1), .int i136_6], M)) rfl ?_
                                    refine ml_if2 (S1 := (187, [], [], M)) (S2 := (166, [(0, .ref m0), (1, .int x1), (3, .int (sL sl x1)), (4, .int i9_4), (6, .int i136_6)], [], M)) rfl rfl rfl (fun c_163 => ?_) (fun c_163 => ?_)
                                    · have c_163 : (sL sl x1) ≤ i136_6 := of_decide_eq_true c_163
                                      refine ml_st (S' := (188, [], [.int (-1)], M)) rfl rfl rfl ?_
                                      exact ml_ret rfl (rfl) (⟨congrArg (fun y => some (Value.int y)) (((ft_b hj_33 hnb (fun h => by rcases h with h | h | h | h | h | h | h | h; exact c_64 h; exact c_71 h; exact c_78 h; exact c_85 h; exact c_92 h; exact c_99 h; exact c_106 h; exact c_113 h) c_125 hj_160)).trans (if_neg (fun h => Int32.not_le.mpr h.1 c_163))).symm, rfl⟩)
                                    · have c_163 : ¬ ((sL sl x1) ≤ i136_6) := of_decide_eq_false c_163
                                      refine ml_blk 3 (S' := (170, [(0, .ref m0), (1, .int x1), (3, .int (sL sl x1)), (4, .int i9_4), (6, .int i136_6)], [.int i9_4, .int x1, .ref m0], M)) rfl ?_
                                      refine ml_blk 3 (S' := (174, [(0, .ref m0), (1, .int x1), (3, .int (sL sl x1)), (4, .int i9_4), (6, .int i136_6)], [.int i136_6, .int (i9_4 + 1), .int x1, .ref m0], M)) rfl ?_
                                      refine ml_call (a := [.ref m0, .int x1, .int (i9_4 + 1), .int i136_6]) (rest := []) rfl (hR.okc rfl rfl rfl) rfl rfl (rm_nameText hR hY (hs0) (hs1) (by omega) (by rw [hk4]; omega) (by omega) (by omega)) (fun v17 M18 h19 => ?_)
                                      obtain ⟨rfl, h19⟩ := h19
                                      rw [h19]
                                      show ml _ _ _ (177, [(0, .ref m0), (1, .int x1), (3, .int (sL sl x1)), (4, .int i9_4), (6, .int i136_6)], [.int (ntv (tx sa ch x1) (i9_4 + 1) i136_6)], M) _
                                      refine ml_if (S1 := (187, [], [], M)) (S2 := (180, [(0, .ref m0), (1, .int x1), (3, .int (sL sl x1)), (4, .int i9_4), (6, .int i136_6)], [], M)) rfl rfl rfl (fun c_177 => ?_) (fun c_177 => ?_)
                                      · have c_177 : (ntv (tx sa ch x1) (i9_4 + 1) i136_6) = 0 := of_decide_eq_true c_177
                                        refine ml_st (S' := (188, [], [.int (-1)], M)) rfl rfl rfl ?_
                                        exact ml_ret rfl (rfl) (⟨congrArg (fun y => some (Value.int y)) (((ft_b hj_33 hnb (fun h => by rcases h with h | h | h | h | h | h | h | h; exact c_64 h; exact c_71 h; exact c_78 h; exact c_85 h; exact c_92 h; exact c_99 h; exact c_106 h; exact c_113 h) c_125 hj_160)).trans (if_neg (fun h => absurd (h.2.symm.trans c_177) (by decide)))).symm, rfl⟩)
                                      · have c_177 : ¬ ((ntv (tx sa ch x1) (i9_4 + 1) i136_6) = 0) := of_decide_eq_false c_177
                                        refine ml_blk 3 (S' := (184, [(0, .ref m0), (1, .int x1), (3, .int (sL sl x1)), (4, .int i9_4), (6, .int i136_6)], [.int (i136_6 + 1)], M)) rfl ?_
                                        refine ml_st (S' := (188, [], [.int (i136_6 + 1)], M)) rfl rfl rfl ?_
                                        exact ml_ret rfl (rfl) (⟨congrArg (fun y => some (Value.int y)) (((ft_b hj_33 hnb (fun h => by rcases h with h | h | h | h | h | h | h | h; exact c_64 h; exact c_71 h; exact c_78 h; exact c_85 h; exact c_92 h; exact c_99 h; exact c_106 h; exact c_113 h) c_125 hj_160)).trans (if_pos ⟨Int32.not_le.mp c_163, (ntx_01.resolve_left c_177)⟩)).symm, rfl⟩)
                                  refine ml_if2 (S1 := (160, [(0, .ref m0), (1, .int x1), (3, .int (sL sl x1)), (4, .int i9_4), (6, .int i136_6)], [], M)) (S2 := (142, [(0, .ref m0), (1, .int x1), (3, .int (sL sl x1)), (4, .int i9_4), (6, .int i136_6)], [], M)) rfl rfl rfl (fun c_139 => ?_) (fun c_139 => ?_)
                                  · have c_139 : (sL sl x1) ≤ i136_6 := of_decide_eq_true c_139
                                    exact J_160  (hse.trans (scn_end (fun h => Int32.not_le.mpr h.1 c_139)))
                                  · have c_139 : ¬ ((sL sl x1) ≤ i136_6) := of_decide_eq_false c_139
                                    refine ml_blk 3 (S' := (146, [(0, .ref m0), (1, .int x1), (3, .int (sL sl x1)), (4, .int i9_4), (6, .int i136_6)], [.int i136_6, .int x1, .ref m0], M)) rfl ?_
                                    refine ml_call (a := [.ref m0, .int x1, .int i136_6]) (rest := []) rfl (hR.okc rfl rfl rfl) rfl rfl (rm_at hR hY (hs0) (hs1) (by omega) (i_nle c_139) (by omega)) (fun v20 M21 h22 => ?_)
                                    obtain ⟨rfl, h22⟩ := h22
                                    rw [h22]
                                    show ml _ _ _ (149, [(0, .ref m0), (1, .int x1), (3, .int (sL sl x1)), (4, .int i9_4), (6, .int i136_6)], [.int (tx sa ch x1 i136_6)], M) _
                                    refine ml_st (S' := (151, [(0, .ref m0), (1, .int x1), (3, .int (sL sl x1)), (4, .int i9_4), (6, .int i136_6)], [.int 59, .int (tx sa ch x1 i136_6)], M)) rfl rfl rfl ?_
                                    refine ml_if2 (S1 := (160, [(0, .ref m0), (1, .int x1), (3, .int (sL sl x1)), (4, .int i9_4), (6, .int i136_6)], [], M)) (S2 := (154, [(0, .ref m0), (1, .int x1), (3, .int (sL sl x1)), (4, .int i9_4), (6, .int i136_6)], [], M)) rfl rfl rfl (fun c_151 => ?_) (fun c_151 => ?_)
                                    · have c_151 : (tx sa ch x1 i136_6) = 59 := of_decide_eq_true c_151
                                      exact J_160  (hse.trans (scn_end (fun h => of_decide_eq_true h.2 c_151)))
                                    · have c_151 : ¬ ((tx sa ch x1 i136_6) = 59) := of_decide_eq_false c_151
                                      refine ml_st (S' := (157, [(6, .int (i136_6 + 1)), (0, .ref m0), (1, .int x1), (3, .int (sL sl x1)), (4, .int i9_4)], [], M)) rfl rfl rfl ?_
                                      refine ml_st (S' := (136, [(0, .ref m0), (1, .int x1), (3, .int (sL sl x1)), (4, .int i9_4), (6, .int (i136_6 + 1))], [], M)) rfl rfl rfl ?_
                                      exact ih_136 (i136_6 + 1) (loop_inc (Int32.not_le.mp c_139) hn_136) (⟨by rw [inc_lt (Int32.not_le.mp c_139)]; omega, by rw [inc_lt (Int32.not_le.mp c_139)]; have := i_nle c_139; omega, hse.trans (scn_go (Int32.not_le.mp c_139) (decide_eq_true c_151) (inc_lt (Int32.not_le.mp c_139)))⟩)
                              exact L_136 _ (i9_4 + 1) (Nat.le_refl _) (⟨by rw [hk4]; omega, by rw [hk4]; omega, rfl⟩)
                            · have c_125 : ¬ ((tx sa ch x1 i9_4) = 76) := of_decide_eq_false c_125
                              refine ml_st (S' := (129, [(5, .int (tx sa ch x1 i9_4)), (0, .ref m0), (1, .int x1), (2, .int x2), (3, .int (sL sl x1)), (4, .int i9_4)], [.int (-1)], M)) rfl rfl rfl ?_
                              exact ml_ret rfl (rfl) (⟨congrArg (fun y => some (Value.int y)) (ft_n hj_33 hnb (fun h => by rcases h with h | h | h | h | h | h | h | h; exact c_64 h; exact c_71 h; exact c_78 h; exact c_85 h; exact c_92 h; exact c_99 h; exact c_106 h; exact c_113 h) c_125), rfl⟩)
                          · have c_113 : ¬ (¬ (tx sa ch x1 i9_4) = 90) := of_decide_eq_false c_113
                            refine ml_blk 3 (S' := (120, [(4, .int i9_4)], [.int (i9_4 + 1)], M)) rfl ?_
                            exact ml_ret rfl (rfl) (⟨congrArg (fun y => some (Value.int y)) (ft_p hj_33 hnb (Or.inr (Or.inr (Or.inr (Or.inr (Or.inr (Or.inr (Or.inr (Decidable.not_not.mp c_113))))))))), rfl⟩)
          · have c_46 : ¬ (i9_4 < (sL sl x1)) := of_decide_eq_false c_46
            refine ml_st (S' := (50, [], [.int (-1)], M)) rfl rfl rfl ?_
            exact ml_ret rfl (rfl) (⟨congrArg (fun y => some (Value.int y)) (ft_1 hj_33 (Or.inr (Int32.not_lt.mp c_46))), rfl⟩)
      refine ml_if2 (S1 := (33, [(0, .ref m0), (1, .int x1), (2, .int x2), (3, .int (sL sl x1)), (4, .int i9_4)], [], M)) (S2 := (15, [(0, .ref m0), (1, .int x1), (2, .int x2), (3, .int (sL sl x1)), (4, .int i9_4)], [], M)) rfl rfl rfl (fun c_12 => ?_) (fun c_12 => ?_)
      · have c_12 : (sL sl x1) ≤ i9_4 := of_decide_eq_true c_12
        exact J_33  (hsc.trans (scn_end (fun h => Int32.not_le.mpr h.1 c_12)))
      · have c_12 : ¬ ((sL sl x1) ≤ i9_4) := of_decide_eq_false c_12
        refine ml_blk 3 (S' := (19, [(0, .ref m0), (1, .int x1), (2, .int x2), (3, .int (sL sl x1)), (4, .int i9_4)], [.int i9_4, .int x1, .ref m0], M)) rfl ?_
        refine ml_call (a := [.ref m0, .int x1, .int i9_4]) (rest := []) rfl (hR.okc rfl rfl rfl) rfl rfl (rm_at hR hY (hs0) (hs1) (by omega) (i_nle c_12) (by omega)) (fun v23 M24 h25 => ?_)
        obtain ⟨rfl, h25⟩ := h25
        rw [h25]
        show ml _ _ _ (22, [(0, .ref m0), (1, .int x1), (2, .int x2), (3, .int (sL sl x1)), (4, .int i9_4)], [.int (tx sa ch x1 i9_4)], M) _
        refine ml_st (S' := (24, [(0, .ref m0), (1, .int x1), (2, .int x2), (3, .int (sL sl x1)), (4, .int i9_4)], [.int 91, .int (tx sa ch x1 i9_4)], M)) rfl rfl rfl ?_
        refine ml_if2 (S1 := (33, [(0, .ref m0), (1, .int x1), (2, .int x2), (3, .int (sL sl x1)), (4, .int i9_4)], [], M)) (S2 := (27, [(0, .ref m0), (1, .int x1), (2, .int x2), (3, .int (sL sl x1)), (4, .int i9_4)], [], M)) rfl rfl rfl (fun c_24 => ?_) (fun c_24 => ?_)
        · have c_24 : ¬ (tx sa ch x1 i9_4) = 91 := of_decide_eq_true c_24
          exact J_33  (hsc.trans (scn_end (fun h => c_24 (of_decide_eq_true h.2))))
        · have c_24 : ¬ (¬ (tx sa ch x1 i9_4) = 91) := of_decide_eq_false c_24
          refine ml_st (S' := (30, [(4, .int (i9_4 + 1)), (0, .ref m0), (1, .int x1), (2, .int x2), (3, .int (sL sl x1))], [], M)) rfl rfl rfl ?_
          refine ml_st (S' := (9, [(0, .ref m0), (1, .int x1), (2, .int x2), (3, .int (sL sl x1)), (4, .int (i9_4 + 1))], [], M)) rfl rfl rfl ?_
          exact ih_9 (i9_4 + 1) (loop_inc (Int32.not_le.mp c_12) hn_9) (⟨by rw [inc_lt (Int32.not_le.mp c_12)]; omega, by rw [inc_lt (Int32.not_le.mp c_12)]; have := i_nle c_12; omega, hsc.trans (scn_go (Int32.not_le.mp c_12) (decide_eq_true (Decidable.not_not.mp c_24)) (inc_lt (Int32.not_le.mp c_12)))⟩)
  exact L_9 _ x2 (Nat.le_refl _) (⟨Int.le_refl _, h2n, rfl⟩)
end
section
/-! the reference: the pool's entries (my own text) -/
section MIU
def PK (n : Nat) (f : Nat → Int32) (S : Nat) (cp mj : Int32) (pa py : Nat → Int32) (I : rI) (R : rR) : Prop := I 51 = some 0 ∧ I 52 = some cp ∧ I 53 = some mj ∧ (1 ≤ cp.toInt ∧ cp.toInt ≤ 65535) ∧ ∀ j, 1 ≤ j → j < cp.toInt.toNat → R 21 j = some (pa j) ∧ (pa j = -1 ∨ (0 ≤ (pa j).toInt ∧ (pa j).toInt + esz (f1 f (pa j)) ≤ n ∧ (f1 f (pa j) = 1 → R 22 j = some (py j) ∧ 0 ≤ (py j).toInt ∧ (py j).toInt < S)))
variable {n S : Nat} {f : Nat → Int32} {cp mj : Int32} {pa py : Nat → Int32} {I I' : rI} {R R' : rR} {k t x : Int32}
theorem PK.mono (h : PK n f S cp mj pa py I R) (hI : ∀ k, k ∈ [51, 52, 53] → I' k = I k) (hR : ∀ k, k ∈ [21, 22] → R' k = R k) : PK n f S cp mj pa py I' R' := by
  obtain ⟨a1, a2, a3, a4, a5⟩ := h
  refine ⟨(hI 51 (by decide)).trans a1, (hI 52 (by decide)).trans a2, (hI 53 (by decide)).trans a3, a4, fun j h1 h2 => ?_⟩
  rw [hR 21 (by decide), hR 22 (by decide)]
  exact a5 j h1 h2
def tgf (f : Nat → Int32) (cp : Int32) (pa : Nat → Int32) (k : Int32) : Int32 := if k ≤ 0 then 0 else if cp ≤ k then 0 else if pa k.toNatClampNeg < 0 then 0 else f1 f (pa k.toNatClampNeg)
def ixf (f : Nat → Int32) (pa : Nat → Int32) (k a : Int32) : Int32 := f2 f (pa k.toNatClampNeg + a)
def pyf (py : Nat → Int32) (k : Int32) : Int32 := py k.toNatClampNeg
/-- an entry that is one -/
theorem PK.e (h : PK n f S cp mj pa py I R) (hk : 0 < k.toInt) (hc : k.toInt < cp.toInt) : R 21 (0 + k).toNatClampNeg = some (pa k.toNatClampNeg) ∧ vp_in (0 + k) 65540 ∧ (pa k.toNatClampNeg = -1 ∨ (0 ≤ (pa k.toNatClampNeg).toInt ∧ (pa k.toNatClampNeg).toInt + esz (f1 f (pa k.toNatClampNeg)) ≤ n ∧ (f1 f (pa k.toNatClampNeg) = 1 → R 22 (0 + k).toNatClampNeg = some (py k.toNatClampNeg) ∧ 0 ≤ (py k.toNatClampNeg).toInt ∧ (py k.toNatClampNeg).toInt < S))) := by
  obtain ⟨a1, a2, a3, a4, a5⟩ := h
  rw [z_nat]
  obtain ⟨b1, b2⟩ := a5 k.toNatClampNeg (by show 1 ≤ k.toInt.toNat; omega) (by show k.toInt.toNat < _; omega)
  exact ⟨b1, vin_z (by omega) (by omega), b2⟩
theorem tgf_in (h : tgf f cp pa k = t) (ht : t ≠ 0) : 0 < k.toInt ∧ k.toInt < cp.toInt ∧ 0 ≤ (pa k.toNatClampNeg).toInt ∧ f1 f (pa k.toNatClampNeg) = t := by
  unfold tgf at h
  split at h
  · exact absurd h.symm ht
  · split at h
    · exact absurd h.symm ht
    · split at h
      · exact absurd h.symm ht
      · rename_i h1 h2 h3
        have e : (0 : Int32).toInt = 0 := rfl
        have h4 := i_nle h1
        exact ⟨by omega, i_nle h2, nneg h3, h⟩
theorem m1_neg {y : Int32} (h : 0 ≤ y.toInt) (e : y = -1) : False := by
  subst e
  exact absurd h (by decide)
theorem PK.tg (h : PK n f S cp mj pa py I R) (ht : tgf f cp pa k = t) (h0 : t ≠ 0) : 0 < k.toInt ∧ k.toInt < cp.toInt ∧ 0 ≤ (pa k.toNatClampNeg).toInt ∧ f1 f (pa k.toNatClampNeg) = t ∧ (pa k.toNatClampNeg).toInt + esz t ≤ n := by
  obtain ⟨h1, h2, h3, h4⟩ := tgf_in ht h0
  obtain ⟨-, -, h5⟩ := h.e h1 h2
  obtain ⟨h6, h7, -⟩ := h5.resolve_left (m1_neg h3)
  rw [h4] at h7
  exact ⟨h1, h2, h3, h4, h7⟩
theorem PK.y (h : PK n f S cp mj pa py I R) (ht : tgf f cp pa k = 1) : R 22 (0 + k).toNatClampNeg = some (pyf py k) ∧ vp_in (0 + k) 65540 ∧ 0 ≤ (pyf py k).toInt ∧ (pyf py k).toInt < S := by
  obtain ⟨h1, h2, h3, h4⟩ := tgf_in ht (by decide)
  obtain ⟨-, h9, h5⟩ := h.e h1 h2
  obtain ⟨h6, h7, h8⟩ := h5.resolve_left (m1_neg h3)
  obtain ⟨a1, a2, a3⟩ := h8 h4
  exact ⟨a1, h9, a2, a3⟩
/-- what an entry's indexes lead to -/
def ix7 (f : Nat → Int32) (cp : Int32) (pa : Nat → Int32) (k : Int32) : Prop := tgf f cp pa (ixf f pa k 1) = 1
def ix12 (f : Nat → Int32) (cp : Int32) (pa : Nat → Int32) (k : Int32) : Prop := tgf f cp pa (ixf f pa k 1) = 1 ∧ tgf f cp pa (ixf f pa k 3) = 1
def ix9 (f : Nat → Int32) (cp : Int32) (pa : Nat → Int32) (k : Int32) : Prop := tgf f cp pa (ixf f pa k 1) = 7 ∧ ix7 f cp pa (ixf f pa k 1) ∧ tgf f cp pa (ixf f pa k 3) = 12 ∧ ix12 f cp pa (ixf f pa k 3)
def ix17 (f : Nat → Int32) (cp : Int32) (pa : Nat → Int32) (k : Int32) : Prop := tgf f cp pa (ixf f pa k 3) = 12 ∧ ix12 f cp pa (ixf f pa k 3)
def t7 (t : Int32) : Prop := t = 7 ∨ t = 8 ∨ t = 16 ∨ t = 19 ∨ t = 20
def t9 (t : Int32) : Prop := 9 ≤ t.toInt ∧ t.toInt ≤ 11
def IXP (f : Nat → Int32) (cp : Int32) (pa : Nat → Int32) (k t : Int32) : Prop := (t7 t → ix7 f cp pa k) ∧ (t = 12 → ix12 f cp pa k) ∧ (t9 t → ix9 f cp pa k) ∧ (t = 15 → t9 (tgf f cp pa (ixf f pa k 2)) → ix9 f cp pa (ixf f pa k 2)) ∧ (t = 17 ∨ t = 18 → ix17 f cp pa k)
theorem esz_7 (h : t7 t) : esz t = 3 := by
  rcases h with rfl | rfl | rfl | rfl | rfl <;> rfl
theorem esz_9 (h : t9 t) : esz t = 5 := by
  have h1 := h.1
  have h2 := h.2
  have : t.toInt = 9 ∨ t.toInt = 10 ∨ t.toInt = 11 := by omega
  rcases this with e | e | e
  · rw [i_ofInt 9 (by omega) e]; rfl
  · rw [i_ofInt 10 (by omega) e]; rfl
  · rw [i_ofInt 11 (by omega) e]; rfl
theorem t9_ne {v : Int32} (h : t9 t) (hv : ¬ t9 v) : t ≠ v := fun e => hv (e ▸ h)
/-- a text that is a method's descriptor -/
def MTX (sa sl ch : Nat → Int32) (s : Int32) : Prop := AGW (tx sa ch s) (sL sl s) 1 ∧ 3 ≤ (sL sl s).toInt
/-- an entry that holds -/
def EOK (f : Nat → Int32) (cp : Int32) (pa py sa sl ch : Nat → Int32) (k : Int32) : Prop := IXP f cp pa k (tgf f cp pa k) ∧ (tgf f cp pa k = 7 → 0 < (sL sl (pyf py (ixf f pa k 1))).toInt) ∧
  (tgf f cp pa k = 10 ∨ tgf f cp pa k = 11 ∨ tgf f cp pa k = 18 → MTX sa sl ch (pyf py (ixf f pa (ixf f pa k 3) 3))) ∧ (tgf f cp pa k = 17 → 0 < (sL sl (pyf py (ixf f pa (ixf f pa k 3) 3))).toInt)
theorem tgf_of (h0 : 0 < k.toInt) (h1 : k.toInt < cp.toInt) (h2 : 0 ≤ (pa k.toNatClampNeg).toInt) : tgf f cp pa k = f1 f (pa k.toNatClampNeg) := by
  have e : (0 : Int32).toInt = 0 := rfl
  unfold tgf
  rw [if_neg (fun q => by have := i_le q; omega), if_neg (fun q => by have := i_le q; omega), if_neg (nlt0 h2)]
theorem t79 (h7 : t7 t) (h9 : t9 t) : False := by
  rcases h7 with rfl | rfl | rfl | rfl | rfl <;> exact absurd h9 (by unfold t9; decide)
theorem t7_ne (h : t7 t) : t ≠ 0 := by
  rintro rfl
  exact absurd h (by unfold t7; decide)
theorem t9_n0 (h : t9 t) : t ≠ 0 := by
  rintro rfl
  exact absurd h (by unfold t9; decide)
theorem IXP_7 (h7 : t7 t) (h : ix7 f cp pa k) : IXP f cp pa k t := ⟨fun _ => h, fun e => absurd (e ▸ h7) (by unfold t7; decide), fun h9 => (t79 h7 h9).elim, fun e => absurd (e ▸ h7) (by unfold t7; decide), fun e => e.elim (fun e => absurd (e ▸ h7) (by unfold t7; decide)) (fun e => absurd (e ▸ h7) (by unfold t7; decide))⟩
theorem IXP_12 (e12 : t = 12) (h : ix12 f cp pa k) : IXP f cp pa k t := by
  subst e12
  exact ⟨fun e => absurd e (by unfold t7; decide), fun _ => h, fun e => absurd e (by unfold t9; decide), fun e => absurd e (by decide), fun e => absurd e (by decide)⟩
theorem IXP_9 (h9 : t9 t) (h : ix9 f cp pa k) : IXP f cp pa k t := ⟨fun e => (t79 e h9).elim, fun e => absurd (e ▸ h9) (by unfold t9; decide), fun _ => h, fun e => absurd (e ▸ h9) (by unfold t9; decide), fun e => e.elim (fun e => absurd (e ▸ h9) (by unfold t9; decide)) (fun e => absurd (e ▸ h9) (by unfold t9; decide))⟩
theorem IXP_15 (e15 : t = 15) (h : t9 (tgf f cp pa (ixf f pa k 2)) → ix9 f cp pa (ixf f pa k 2)) : IXP f cp pa k t := by
  subst e15
  exact ⟨fun e => absurd e (by unfold t7; decide), fun e => absurd e (by decide), fun e => absurd e (by unfold t9; decide), fun _ => h, fun e => absurd e (by decide)⟩
theorem IXP_17 (e17 : t = 17 ∨ t = 18) (h : ix17 f cp pa k) : IXP f cp pa k t := by
  rcases e17 with e | e
  · subst e
    exact ⟨fun e => absurd e (by unfold t7; decide), fun e => absurd e (by decide), fun e => absurd e (by unfold t9; decide), fun e => absurd e (by decide), fun _ => h⟩
  · subst e
    exact ⟨fun e => absurd e (by unfold t7; decide), fun e => absurd e (by decide), fun e => absurd e (by unfold t9; decide), fun e => absurd e (by decide), fun _ => h⟩
theorem IXP_o (a : ¬ t7 t) (b : ¬ t = 12) (c : ¬ t9 t) (d : ¬ t = 15) (e : ¬ (t = 17 ∨ t = 18)) : IXP f cp pa k t := ⟨fun h => absurd h a, fun h => absurd h b, fun h => absurd h c, fun h => absurd h d, fun h => absurd h e⟩
theorem esz_17 (h : t = 17 ∨ t = 18) : esz t = 5 := by
  rcases h with rfl | rfl <;> rfl
def EK (f : Nat → Int32) (cp : Int32) (pa py sa sl ch : Nat → Int32) : Prop := ∀ k, tgf f cp pa k ≠ 0 → EOK f cp pa py sa sl ch k
theorem ntv_0 {c : Int32 → Int32} : ntv c 0 0 = 0 := by
  show ntx c 0 2 0 (0 - 1) = 0
  exact ntx_dbl (v := 47) (by decide) rfl (by decide) rfl (by decide)
theorem t9_10 : t9 10 := by unfold t9; decide
theorem t9_11 : t9 11 := by unfold t9; decide
theorem t9_of (h : t = 9 ∨ t = 10 ∨ t = 11) : t9 t := by
  rcases h with rfl | rfl | rfl <;> (unfold t9; decide)
end MIU
end
