/-! the reference: a code is cut (laid by wip/p2/c77.py) -/
set_option maxHeartbeats 2000000 in
theorem rm_cuts {g : xe_G}  {m0 : Nat} {q : Nat → Nat} {z : Nat × Nat} {I : rI} {R : rR} {M : mi_H} {x1 co si : Int32} {n : Nat} {f : Nat → Int32} {S cN : Nat} {sa sl ch : Nat → Int32} {cp mj : Int32} {pa py : Nat → Int32} {ca cl mx : Int32}  (hR : RS g m0 q z I R M) (hk74 : I 74 = some co) (hk9 : I 9 = some si) (hF : FK n f I R) (hY : SK S cN sa sl ch I R) (hP : PK n f S cp mj pa py I R) (hE : EK f cp pa py sa sl ch) (hx0 : 0 ≤ x1.toInt) (hx8 : x1.toInt < 8192) (h37 : R 37 x1.toNatClampNeg = some ca) (h38 : R 38 x1.toNatClampNeg = some cl) (h40 : R 40 x1.toNatClampNeg = some mx) (hca : 0 ≤ ca.toInt) (hcl : 0 ≤ cl.toInt) (hcn : ca.toInt + cl.toInt ≤ n) (hCI : co = x1 → CUT f n I R) {d : Nat} (hd : 7 ≤ d) : mt (mT g) d 200 [.ref m0, .int x1] M (fun v M' => ∃ (x : Int32) (I' : rI) (R' : rR), v = some (.int x) ∧ RS g m0 q z I' R' M' ∧ eqI [74, 75, 76, 77, 78, 79] I I' ∧ eqR [80, 81] R R' ∧ (x = 0 ∨ x = 1) ∧ (CUT f n I' R' ∧ I' 74 = some x1 ∧ (x = 0 ∨ ∃ w : Int32, I' 76 = some w ∧ w < 0))) := by
  obtain ⟨d, rfl⟩ : ∃ e, d = e + 1 := ⟨d - 1, by omega⟩
  refine mt_in (b := mb_200 g) rfl rfl ?_
  show ml (mT g) d (mb_200 g).2 (0, [(0, .ref m0), (1, .int x1)], [], M) _
  have hn := hF.1
  refine ml_st (S' := (1, [(0, .ref m0), (1, .int x1)], [.ref m0], M)) rfl rfl rfl ?_
  refine rg_int (S' := (4, [(0, .ref m0), (1, .int x1)], [.int co], M)) rfl hR rfl (hk74) rfl ?_
  refine ml_st (S' := (5, [(0, .ref m0), (1, .int x1)], [.int x1, .int co], M)) rfl rfl rfl ?_
  refine ml_if2 (S1 := (21, [(0, .ref m0), (1, .int x1)], [], M)) (S2 := (8, [(0, .ref m0), (1, .int x1)], [], M)) rfl rfl rfl (fun c_5 => ?_) (fun c_5 => ?_)
  · have c_5 : ¬ co = x1 := of_decide_eq_true c_5
    refine ml_blk 2 (S' := (23, [(0, .ref m0), (1, .int x1)], [.int x1, .ref m0], M)) rfl ?_
    refine rp_int rfl hR rfl (fun M11 I12 hR13 e14 f15 => ?_)
    show ml _ _ _ (26, [(0, .ref m0), (1, .int x1)], [], M11) _
    refine ml_blk 2 (S' := (28, [(0, .ref m0), (1, .int x1)], [.ref m0, .ref m0], M11)) rfl ?_
    refine rg_ref (S' := (31, [(0, .ref m0), (1, .int x1)], [.ref (q 37), .ref m0], M11)) rfl hR13 rfl rfl ?_
    refine ml_st (S' := (32, [(0, .ref m0), (1, .int x1)], [.int x1, .ref (q 37), .ref m0], M11)) rfl rfl rfl ?_
    refine ra_ld (k := 37) (S' := (33, [(0, .ref m0), (1, .int x1)], [.int ca, .ref m0], M11)) rfl hR13 rfl (vin_lt hx0 (by omega)) (h37) rfl ?_
    refine rp_int rfl hR13 rfl (fun M16 I17 hR18 e19 f20 => ?_)
    show ml _ _ _ (36, [(0, .ref m0), (1, .int x1)], [], M16) _
    refine ml_blk 2 (S' := (38, [(0, .ref m0), (1, .int x1)], [.ref m0, .ref m0], M16)) rfl ?_
    refine rg_ref (S' := (41, [(0, .ref m0), (1, .int x1)], [.ref (q 38), .ref m0], M16)) rfl hR18 rfl rfl ?_
    refine ml_st (S' := (42, [(0, .ref m0), (1, .int x1)], [.int x1, .ref (q 38), .ref m0], M16)) rfl rfl rfl ?_
    refine ra_ld (k := 38) (S' := (43, [(0, .ref m0), (1, .int x1)], [.int cl, .ref m0], M16)) rfl hR18 rfl (vin_lt hx0 (by omega)) (h38) rfl ?_
    refine rp_int rfl hR18 rfl (fun M21 I22 hR23 e24 f25 => ?_)
    show ml _ _ _ (46, [(0, .ref m0), (1, .int x1)], [], M21) _
    refine ml_blk 2 (S' := (48, [(0, .ref m0), (1, .int x1)], [.ref m0, .ref m0], M21)) rfl ?_
    refine rg_ref (S' := (51, [(0, .ref m0), (1, .int x1)], [.ref (q 40), .ref m0], M21)) rfl hR23 rfl rfl ?_
    refine ml_st (S' := (52, [(0, .ref m0), (1, .int x1)], [.int x1, .ref (q 40), .ref m0], M21)) rfl rfl rfl ?_
    refine ra_ld (k := 40) (S' := (53, [(0, .ref m0), (1, .int x1)], [.int mx, .ref m0], M21)) rfl hR23 rfl (vin_lt hx0 (by omega)) (h40) rfl ?_
    refine rp_int rfl hR23 rfl (fun M26 I27 hR28 e29 f30 => ?_)
    show ml _ _ _ (56, [(0, .ref m0), (1, .int x1)], [], M26) _
    refine ml_blk 2 (S' := (58, [(0, .ref m0), (1, .int x1)], [.int 0, .ref m0], M26)) rfl ?_
    refine rp_int rfl hR28 rfl (fun M31 I32 hR33 e34 f35 => ?_)
    show ml _ _ _ (61, [(0, .ref m0), (1, .int x1)], [], M31) _
    refine ml_blk 2 (S' := (63, [(0, .ref m0), (1, .int x1)], [.int (-1), .ref m0], M31)) rfl ?_
    refine rp_int rfl hR33 rfl (fun M36 I37 hR38 e39 f40 => ?_)
    show ml _ _ _ (66, [(0, .ref m0), (1, .int x1)], [], M36) _
    have hCK : CK n ca cl I37 R := ⟨(f40 77 (by decide)).trans ((f35 77 (by decide)).trans ((f30 77 (by decide)).trans ((f25 77 (by decide)).trans (e19)))), (f40 78 (by decide)).trans ((f35 78 (by decide)).trans ((f30 78 (by decide)).trans (e24))), hca, hcl, hcn⟩
    refine ml_st (S' := (67, [(0, .ref m0), (1, .int x1)], [.int 0], M36)) rfl rfl rfl ?_
    refine ml_st (S' := (68, [(0, .ref m0), (2, .int 0)], [], M36)) rfl rfl rfl ?_
    have L_68 : ∀ (n_68 : Nat) (i68_2 : Int32) (M_68 : mi_H) (I_68 : rI) (R_68 : rR), (2147483648 - i68_2.toInt).toNat ≤ n_68 → RS g m0 q z I_68 R_68 M_68 → eqI [] I37 I_68 → eqR [81] R R_68 → (0 ≤ i68_2.toInt ∧ i68_2.toInt ≤ cl.toInt ∧ KB 81 i68_2.toInt.toNat R_68) → ml (mT g) d (mb_200 g).2 (68, [(0, .ref m0), (2, .int i68_2)], [], M_68) (fun v M' => ∃ (x : Int32) (I' : rI) (R' : rR), v = some (.int x) ∧ RS g m0 q z I' R' M' ∧ eqI [74, 75, 76, 77, 78, 79] I I' ∧ eqR [80, 81] R R' ∧ (x = 0 ∨ x = 1) ∧ (CUT f n I' R' ∧ I' 74 = some x1 ∧ (x = 0 ∨ ∃ w : Int32, I' 76 = some w ∧ w < 0))) := by
      intro n_68
      induction n_68 with
      | zero => intro i68_2 M_68 I_68 R_68 hn; exact (loop_zero hn).elim
      | succ n_68 ih_68 =>
        intro i68_2 M_68 I_68 R_68 hn_68 hR_68 hI_68 hV_68 hi_68
        obtain ⟨hk0, hk1, hk81⟩ := hi_68
        refine ml_blk 2 (S' := (70, [(0, .ref m0), (2, .int i68_2)], [.ref m0, .int i68_2], M_68)) rfl ?_
        refine rg_int (S' := (73, [(0, .ref m0), (2, .int i68_2)], [.int cl, .int i68_2], M_68)) rfl hR_68 rfl ((hI_68 78 (by decide)).trans ((f40 78 (by decide)).trans ((f35 78 (by decide)).trans ((f30 78 (by decide)).trans (e24))))) rfl ?_
        refine ml_if2 (S1 := (89, [(0, .ref m0), (2, .int i68_2)], [], M_68)) (S2 := (76, [(0, .ref m0), (2, .int i68_2)], [], M_68)) rfl rfl rfl (fun c_73 => ?_) (fun c_73 => ?_)
        · have c_73 : cl ≤ i68_2 := of_decide_eq_true c_73
          have hkb0 : KB 81 cl.toInt.toNat R_68 := by have q := i_le c_73; rw [show cl.toInt.toNat = i68_2.toInt.toNat by omega]; exact hk81
          refine ml_st (S' := (90, [(0, .ref m0), (2, .int i68_2)], [.int 0], M_68)) rfl rfl rfl ?_
          refine ml_st (S' := (91, [(0, .ref m0), (2, .int 0)], [], M_68)) rfl rfl rfl ?_
          have L_91 : ∀ (n_91 : Nat) (i91_2 : Int32) (mn : Nat) (w9 : Int32) (M_91 : mi_H) (I_91 : rI) (R_91 : rR), ((cl.toInt - i91_2.toInt).toNat + (if w9 < 0 then 2 else 1)) ≤ n_91 → RS g m0 q z I_91 R_91 M_91 → eqI [75, 76] I_68 I_91 → eqR [80, 81] R_68 R_91 → (0 ≤ i91_2.toInt ∧ i91_2.toInt ≤ cl.toInt ∧ (mn : Int) ≤ i91_2.toInt ∧ I_91 75 = some (nI mn) ∧ I_91 76 = some w9 ∧ KB 81 cl.toInt.toNat R_91 ∧ BGN f ca cl mn R_91) → ml (mT g) d (mb_200 g).2 (91, [(0, .ref m0), (2, .int i91_2)], [], M_91) (fun v M' => ∃ (x : Int32) (I' : rI) (R' : rR), v = some (.int x) ∧ RS g m0 q z I' R' M' ∧ eqI [74, 75, 76, 77, 78, 79] I I' ∧ eqR [80, 81] R R' ∧ (x = 0 ∨ x = 1) ∧ (CUT f n I' R' ∧ I' 74 = some x1 ∧ (x = 0 ∨ ∃ w : Int32, I' 76 = some w ∧ w < 0))) := by
            intro n_91
            induction n_91 with
            | zero => intro i91_2 mn w9 M_91 I_91 R_91 hn hR_91 hI_91 hV_91 hi; exact absurd hn (by split <;> omega)
            | succ n_91 ih_91 =>
              intro i91_2 mn w9 M_91 I_91 R_91 hn_91 hR_91 hI_91 hV_91 hi_91
              obtain ⟨hp0, hp1, hmn, h75, h76, hkb, hbg⟩ := hi_91
              refine ml_blk 2 (S' := (93, [(0, .ref m0), (2, .int i91_2)], [.ref m0, .int i91_2], M_91)) rfl ?_
              refine rg_int (S' := (96, [(0, .ref m0), (2, .int i91_2)], [.int cl, .int i91_2], M_91)) rfl hR_91 rfl ((hI_91 78 (by decide)).trans ((hI_68 78 (by decide)).trans ((f40 78 (by decide)).trans ((f35 78 (by decide)).trans ((f30 78 (by decide)).trans (e24)))))) rfl ?_
              refine ml_if2 (S1 := (233, [(0, .ref m0)], [], M_91)) (S2 := (99, [(0, .ref m0), (2, .int i91_2)], [], M_91)) rfl rfl rfl (fun c_96 => ?_) (fun c_96 => ?_)
              · have c_96 : cl ≤ i91_2 := of_decide_eq_true c_96
                refine ml_st (S' := (234, [(0, .ref m0)], [.int 0], M_91)) rfl rfl rfl ?_
                refine ml_st (S' := (235, [(0, .ref m0), (3, .int 0)], [], M_91)) rfl rfl rfl ?_
                have L_235 : ∀ (n_235 : Nat) (i235_3 : Int32) (w8 : Int32) (M_235 : mi_H) (I_235 : rI) (R_235 : rR), (2147483648 - i235_3.toInt).toNat ≤ n_235 → RS g m0 q z I_235 R_235 M_235 → eqI [76] I_91 I_235 → eqR [] R_91 R_235 → (0 ≤ i235_3.toInt ∧ i235_3.toInt ≤ mn ∧ I_235 76 = some w8 ∧ (w8 < 0 → ∀ j, j < i235_3.toInt.toNat → ∀ p, R_91 80 j = some p → AIM f ca cl p)) → ml (mT g) d (mb_200 g).2 (235, [(0, .ref m0), (3, .int i235_3)], [], M_235) (fun v M' => ∃ (x : Int32) (I' : rI) (R' : rR), v = some (.int x) ∧ RS g m0 q z I' R' M' ∧ eqI [74, 75, 76, 77, 78, 79] I I' ∧ eqR [80, 81] R R' ∧ (x = 0 ∨ x = 1) ∧ (CUT f n I' R' ∧ I' 74 = some x1 ∧ (x = 0 ∨ ∃ w : Int32, I' 76 = some w ∧ w < 0))) := by
                  intro n_235
                  induction n_235 with
                  | zero => intro i235_3 w8 M_235 I_235 R_235 hn; exact (loop_zero hn).elim
                  | succ n_235 ih_235 =>
                    intro i235_3 w8 M_235 I_235 R_235 hn_235 hR_235 hI_235 hV_235 hi_235
                    obtain ⟨hk0, hkm, h76b, hal⟩ := hi_235
                    refine ml_blk 2 (S' := (237, [(0, .ref m0), (3, .int i235_3)], [.ref m0, .int i235_3], M_235)) rfl ?_
                    refine rg_int (S' := (240, [(0, .ref m0), (3, .int i235_3)], [.int (nI mn), .int i235_3], M_235)) rfl hR_235 rfl ((hI_235 75 (by decide)).trans (h75)) rfl ?_
                    refine ml_if2 (S1 := (279, [(0, .ref m0)], [], M_235)) (S2 := (243, [(0, .ref m0), (3, .int i235_3)], [], M_235)) rfl rfl rfl (fun c_240 => ?_) (fun c_240 => ?_)
                    · have c_240 : (nI mn) ≤ i235_3 := of_decide_eq_true c_240
                      refine ml_st (S' := (280, [(0, .ref m0)], [.ref m0], M_235)) rfl rfl rfl ?_
                      refine rg_int (S' := (283, [(0, .ref m0)], [.int w8], M_235)) rfl hR_235 rfl (h76b) rfl ?_
                      refine ml_if (S1 := (290, [(0, .ref m0)], [], M_235)) (S2 := (286, [(0, .ref m0)], [], M_235)) rfl rfl rfl (fun c_283 => ?_) (fun c_283 => ?_)
                      · have c_283 : 0 ≤ w8 := of_decide_eq_true c_283
                        refine ml_st (S' := (291, [], [.int 0], M_235)) rfl rfl rfl ?_
                        have hC41 : CK n ca cl I_235 R_235 := (((hCK.mono (cIx hI_68 (by decide)) (cRx hV_68 (by decide))).mono (cIx hI_91 (by decide)) (cRx hV_91 (by decide))).mono (cIx hI_235 (by decide)) (cRx hV_235 (by decide)))
                        exact ml_ret rfl (r_z (Or.inl rfl)) (⟨_, _, _, rfl, hR_235, (((((((((eqI.rf.put f15 (by decide)).put f20 (by decide)).put f25 (by decide)).put f30 (by decide)).put f35 (by decide)).put f40 (by decide)).tr hI_68 (by decide)).tr hI_91 (by decide)).tr hI_235 (by decide)), (((eqR.rf.tr hV_68 (by decide)).tr hV_91 (by decide)).tr hV_235 (by decide)), Or.inl rfl, ⟨⟨ca, cl, w8, mx, mn, hC41, (hI_235 75 (by decide)).trans (h75), h76b, (hI_235 79 (by decide)).trans ((hI_91 79 (by decide)).trans ((hI_68 79 (by decide)).trans ((f40 79 (by decide)).trans ((f35 79 (by decide)).trans (e29))))), by omega, hkb.eq (hV_235 81 (by decide)), fun k hk => by obtain ⟨p, hp, hi⟩ := hbg k hk; exact ⟨p, (congrFun (hV_235 80 (by decide)) _).trans hp, hi, fun hw => by first | exact hal hw k (by have q := i_le c_240; rw [nI_val (by omega)] at q; omega) p hp | exact absurd hw (Int32.not_lt.mpr c_247)⟩⟩, (hI_235 74 (by decide)).trans ((hI_91 74 (by decide)).trans ((hI_68 74 (by decide)).trans ((f40 74 (by decide)).trans ((f35 74 (by decide)).trans ((f30 74 (by decide)).trans ((f25 74 (by decide)).trans ((f20 74 (by decide)).trans (e14)))))))), Or.inl rfl⟩⟩)
                      · have c_283 : ¬ (0 ≤ w8) := of_decide_eq_false c_283
                        refine ml_st (S' := (287, [(0, .ref m0)], [.int 1], M_235)) rfl rfl rfl ?_
                        refine ml_st (S' := (291, [], [.int 1], M_235)) rfl rfl rfl ?_
                        have hC42 : CK n ca cl I_235 R_235 := (((hCK.mono (cIx hI_68 (by decide)) (cRx hV_68 (by decide))).mono (cIx hI_91 (by decide)) (cRx hV_91 (by decide))).mono (cIx hI_235 (by decide)) (cRx hV_235 (by decide)))
                        exact ml_ret rfl (r_z (Or.inr rfl)) (⟨_, _, _, rfl, hR_235, (((((((((eqI.rf.put f15 (by decide)).put f20 (by decide)).put f25 (by decide)).put f30 (by decide)).put f35 (by decide)).put f40 (by decide)).tr hI_68 (by decide)).tr hI_91 (by decide)).tr hI_235 (by decide)), (((eqR.rf.tr hV_68 (by decide)).tr hV_91 (by decide)).tr hV_235 (by decide)), Or.inr rfl, ⟨⟨ca, cl, w8, mx, mn, hC42, (hI_235 75 (by decide)).trans (h75), h76b, (hI_235 79 (by decide)).trans ((hI_91 79 (by decide)).trans ((hI_68 79 (by decide)).trans ((f40 79 (by decide)).trans ((f35 79 (by decide)).trans (e29))))), by omega, hkb.eq (hV_235 81 (by decide)), fun k hk => by obtain ⟨p, hp, hi⟩ := hbg k hk; exact ⟨p, (congrFun (hV_235 80 (by decide)) _).trans hp, hi, fun hw => by first | exact hal hw k (by have q := i_le c_240; rw [nI_val (by omega)] at q; omega) p hp | exact absurd hw (Int32.not_lt.mpr c_247)⟩⟩, (hI_235 74 (by decide)).trans ((hI_91 74 (by decide)).trans ((hI_68 74 (by decide)).trans ((f40 74 (by decide)).trans ((f35 74 (by decide)).trans ((f30 74 (by decide)).trans ((f25 74 (by decide)).trans ((f20 74 (by decide)).trans (e14)))))))), Or.inr ⟨w8, h76b, Int32.not_le.mp c_283⟩⟩⟩)
                    · have c_240 : ¬ ((nI mn) ≤ i235_3) := of_decide_eq_false c_240
                      refine ml_st (S' := (244, [(0, .ref m0), (3, .int i235_3)], [.ref m0], M_235)) rfl rfl rfl ?_
                      refine rg_int (S' := (247, [(0, .ref m0), (3, .int i235_3)], [.int w8], M_235)) rfl hR_235 rfl (h76b) rfl ?_
                      refine ml_if (S1 := (279, [(0, .ref m0)], [], M_235)) (S2 := (250, [(0, .ref m0), (3, .int i235_3)], [], M_235)) rfl rfl rfl (fun c_247 => ?_) (fun c_247 => ?_)
                      · have c_247 : 0 ≤ w8 := of_decide_eq_true c_247
                        refine ml_st (S' := (280, [(0, .ref m0)], [.ref m0], M_235)) rfl rfl rfl ?_
                        refine rg_int (S' := (283, [(0, .ref m0)], [.int w8], M_235)) rfl hR_235 rfl (h76b) rfl ?_
                        refine ml_if (S1 := (290, [(0, .ref m0)], [], M_235)) (S2 := (286, [(0, .ref m0)], [], M_235)) rfl rfl rfl (fun c_283 => ?_) (fun c_283 => ?_)
                        · have c_283 : 0 ≤ w8 := of_decide_eq_true c_283
                          refine ml_st (S' := (291, [], [.int 0], M_235)) rfl rfl rfl ?_
                          have hC43 : CK n ca cl I_235 R_235 := (((hCK.mono (cIx hI_68 (by decide)) (cRx hV_68 (by decide))).mono (cIx hI_91 (by decide)) (cRx hV_91 (by decide))).mono (cIx hI_235 (by decide)) (cRx hV_235 (by decide)))
                          exact ml_ret rfl (r_z (Or.inl rfl)) (⟨_, _, _, rfl, hR_235, (((((((((eqI.rf.put f15 (by decide)).put f20 (by decide)).put f25 (by decide)).put f30 (by decide)).put f35 (by decide)).put f40 (by decide)).tr hI_68 (by decide)).tr hI_91 (by decide)).tr hI_235 (by decide)), (((eqR.rf.tr hV_68 (by decide)).tr hV_91 (by decide)).tr hV_235 (by decide)), Or.inl rfl, ⟨⟨ca, cl, w8, mx, mn, hC43, (hI_235 75 (by decide)).trans (h75), h76b, (hI_235 79 (by decide)).trans ((hI_91 79 (by decide)).trans ((hI_68 79 (by decide)).trans ((f40 79 (by decide)).trans ((f35 79 (by decide)).trans (e29))))), by omega, hkb.eq (hV_235 81 (by decide)), fun k hk => by obtain ⟨p, hp, hi⟩ := hbg k hk; exact ⟨p, (congrFun (hV_235 80 (by decide)) _).trans hp, hi, fun hw => by first | exact hal hw k (by have q := i_le c_240; rw [nI_val (by omega)] at q; omega) p hp | exact absurd hw (Int32.not_lt.mpr c_247)⟩⟩, (hI_235 74 (by decide)).trans ((hI_91 74 (by decide)).trans ((hI_68 74 (by decide)).trans ((f40 74 (by decide)).trans ((f35 74 (by decide)).trans ((f30 74 (by decide)).trans ((f25 74 (by decide)).trans ((f20 74 (by decide)).trans (e14)))))))), Or.inl rfl⟩⟩)
                        · have c_283 : ¬ (0 ≤ w8) := of_decide_eq_false c_283
                          refine ml_st (S' := (287, [(0, .ref m0)], [.int 1], M_235)) rfl rfl rfl ?_
                          refine ml_st (S' := (291, [], [.int 1], M_235)) rfl rfl rfl ?_
                          have hC44 : CK n ca cl I_235 R_235 := (((hCK.mono (cIx hI_68 (by decide)) (cRx hV_68 (by decide))).mono (cIx hI_91 (by decide)) (cRx hV_91 (by decide))).mono (cIx hI_235 (by decide)) (cRx hV_235 (by decide)))
                          exact ml_ret rfl (r_z (Or.inr rfl)) (⟨_, _, _, rfl, hR_235, (((((((((eqI.rf.put f15 (by decide)).put f20 (by decide)).put f25 (by decide)).put f30 (by decide)).put f35 (by decide)).put f40 (by decide)).tr hI_68 (by decide)).tr hI_91 (by decide)).tr hI_235 (by decide)), (((eqR.rf.tr hV_68 (by decide)).tr hV_91 (by decide)).tr hV_235 (by decide)), Or.inr rfl, ⟨⟨ca, cl, w8, mx, mn, hC44, (hI_235 75 (by decide)).trans (h75), h76b, (hI_235 79 (by decide)).trans ((hI_91 79 (by decide)).trans ((hI_68 79 (by decide)).trans ((f40 79 (by decide)).trans ((f35 79 (by decide)).trans (e29))))), by omega, hkb.eq (hV_235 81 (by decide)), fun k hk => by obtain ⟨p, hp, hi⟩ := hbg k hk; exact ⟨p, (congrFun (hV_235 80 (by decide)) _).trans hp, hi, fun hw => by first | exact hal hw k (by have q := i_le c_240; rw [nI_val (by omega)] at q; omega) p hp | exact absurd hw (Int32.not_lt.mpr c_247)⟩⟩, (hI_235 74 (by decide)).trans ((hI_91 74 (by decide)).trans ((hI_68 74 (by decide)).trans ((f40 74 (by decide)).trans ((f35 74 (by decide)).trans ((f30 74 (by decide)).trans ((f25 74 (by decide)).trans ((f20 74 (by decide)).trans (e14)))))))), Or.inr ⟨w8, h76b, Int32.not_le.mp c_283⟩⟩⟩)
                      · have c_247 : ¬ (0 ≤ w8) := of_decide_eq_false c_247
                        have hkl : i235_3.toInt < mn := by have q := i_nle c_240; rw [nI_val (by omega)] at q; exact q
                        obtain ⟨p9, hp9, hi9⟩ := hbg i235_3.toNatClampNeg (by show i235_3.toInt.toNat < mn; omega)
                        have hkb9 : KB 81 cl.toInt.toNat R_235 := hkb.eq (hV_235 81 (by decide))
                        refine ml_blk 2 (S' := (252, [(0, .ref m0), (3, .int i235_3)], [.ref m0, .ref m0], M_235)) rfl ?_
                        refine rg_ref (S' := (255, [(0, .ref m0), (3, .int i235_3)], [.ref (q 80), .ref m0], M_235)) rfl hR_235 rfl rfl ?_
                        refine ml_st (S' := (256, [(0, .ref m0), (3, .int i235_3)], [.int i235_3, .ref (q 80), .ref m0], M_235)) rfl rfl rfl ?_
                        refine ra_ld (k := 80) (S' := (257, [(0, .ref m0), (3, .int i235_3)], [.int p9, .ref m0], M_235)) rfl hR_235 rfl (vin_lt hk0 (by omega)) ((congrFun (hV_235 80 (by decide)) _).trans hp9) rfl ?_
                        have hF45 : FK n f I_235 R_235 := (((((((((hF.mono (pIx f15 (by decide)) (fun _ _ => rfl)).mono (pIx f20 (by decide)) (fun _ _ => rfl)).mono (pIx f25 (by decide)) (fun _ _ => rfl)).mono (pIx f30 (by decide)) (fun _ _ => rfl)).mono (pIx f35 (by decide)) (fun _ _ => rfl)).mono (pIx f40 (by decide)) (fun _ _ => rfl)).mono (cIx hI_68 (by decide)) (cRx hV_68 (by decide))).mono (cIx hI_91 (by decide)) (cRx hV_91 (by decide))).mono (cIx hI_235 (by decide)) (cRx hV_235 (by decide)))
                        have hC46 : CK n ca cl I_235 R_235 := (((hCK.mono (cIx hI_68 (by decide)) (cRx hV_68 (by decide))).mono (cIx hI_91 (by decide)) (cRx hV_91 (by decide))).mono (cIx hI_235 (by decide)) (cRx hV_235 (by decide)))
                        refine ml_call (a := [.ref m0, .int p9]) (rest := []) rfl (hR_235.okc rfl rfl rfl) rfl rfl (rm_aims hR_235 hF45 hC46 (hi9) (hkb9) (by omega)) (fun v47 M48 h49 => ?_)
                        obtain ⟨⟨u50, rfl, z51, w52⟩, h49⟩ := h49
                        rw [h49]
                        show ml _ _ _ (260, [(0, .ref m0), (3, .int i235_3)], [.int u50], M_235) _
                        have haimx := w52
                        refine ml_if (S1 := (273, [(0, .ref m0), (3, .int i235_3)], [], M_235)) (S2 := (263, [(0, .ref m0), (3, .int i235_3)], [], M_235)) rfl rfl rfl (fun c_260 => ?_) (fun c_260 => ?_)
                        · have c_260 : ¬ u50 = 0 := of_decide_eq_true c_260
                          have haim := haimx.resolve_left c_260
                          refine ml_st (S' := (276, [(3, .int (i235_3 + 1)), (0, .ref m0)], [], M_235)) rfl rfl rfl ?_
                          refine ml_st (S' := (235, [(0, .ref m0), (3, .int (i235_3 + 1))], [], M_235)) rfl rfl rfl ?_
                          exact ih_235 (i235_3 + 1) w8 _ _ _ (loop_inc (Int32.not_le.mp c_240) hn_235) hR_235 (eqI.rf.tr hI_235 (by decide)) (eqR.rf.tr hV_235 (by decide)) (⟨by rw [inc_lt (Int32.not_le.mp c_240)]; omega, by rw [inc_lt (Int32.not_le.mp c_240)]; omega, h76b, fun hw j hj p hp => by rw [inc_lt (Int32.not_le.mp c_240)] at hj; have e9 : i235_3.toNatClampNeg = i235_3.toInt.toNat := rfl; by_cases e : j = i235_3.toNatClampNeg; (have e2 : some p9 = some p := hp9.symm.trans (e ▸ hp); cases e2; exact haim); exact hal hw j (by omega) p hp⟩)
                        · have c_260 : ¬ (¬ u50 = 0) := of_decide_eq_false c_260
                          refine ml_blk 2 (S' := (265, [(0, .ref m0), (3, .int i235_3)], [.ref m0, .ref m0], M_235)) rfl ?_
                          refine rg_ref (S' := (268, [(0, .ref m0), (3, .int i235_3)], [.ref (q 80), .ref m0], M_235)) rfl hR_235 rfl rfl ?_
                          refine ml_st (S' := (269, [(0, .ref m0), (3, .int i235_3)], [.int i235_3, .ref (q 80), .ref m0], M_235)) rfl rfl rfl ?_
                          refine ra_ld (k := 80) (S' := (270, [(0, .ref m0), (3, .int i235_3)], [.int p9, .ref m0], M_235)) rfl hR_235 rfl (vin_lt hk0 (by omega)) ((congrFun (hV_235 80 (by decide)) _).trans hp9) rfl ?_
                          refine rp_int rfl hR_235 rfl (fun M53 I54 hR55 e56 f57 => ?_)
                          show ml _ _ _ (273, [(0, .ref m0), (3, .int i235_3)], [], M53) _
                          refine ml_st (S' := (276, [(3, .int (i235_3 + 1)), (0, .ref m0)], [], M53)) rfl rfl rfl ?_
                          refine ml_st (S' := (235, [(0, .ref m0), (3, .int (i235_3 + 1))], [], M53)) rfl rfl rfl ?_
                          exact ih_235 (i235_3 + 1) p9 _ _ _ (loop_inc (Int32.not_le.mp c_240) hn_235) hR55 ((eqI.rf.tr hI_235 (by decide)).put f57 (by decide)) (eqR.rf.tr hV_235 (by decide)) (⟨by rw [inc_lt (Int32.not_le.mp c_240)]; omega, by rw [inc_lt (Int32.not_le.mp c_240)]; omega, e56, fun hw => absurd hw (nlt0 hi9.1)⟩)
                exact L_235 _ 0 w9 _ _ _ (Nat.le_refl _) hR_91 eqI.rf eqR.rf (⟨by decide, by have : (0 : Int32).toInt = 0 := rfl; omega, h76, fun _ j hj => absurd hj (Nat.not_lt_zero j)⟩)
              · have c_96 : ¬ (cl ≤ i91_2) := of_decide_eq_false c_96
                refine ml_st (S' := (100, [(0, .ref m0), (2, .int i91_2)], [.ref m0], M_91)) rfl rfl rfl ?_
                refine rg_int (S' := (103, [(0, .ref m0), (2, .int i91_2)], [.int w9], M_91)) rfl hR_91 rfl (h76) rfl ?_
                refine ml_if (S1 := (233, [(0, .ref m0)], [], M_91)) (S2 := (106, [(0, .ref m0), (2, .int i91_2)], [], M_91)) rfl rfl rfl (fun c_103 => ?_) (fun c_103 => ?_)
                · have c_103 : 0 ≤ w9 := of_decide_eq_true c_103
                  refine ml_st (S' := (234, [(0, .ref m0)], [.int 0], M_91)) rfl rfl rfl ?_
                  refine ml_st (S' := (235, [(0, .ref m0), (3, .int 0)], [], M_91)) rfl rfl rfl ?_
                  have L_235 : ∀ (n_235 : Nat) (i235_3 : Int32) (w8 : Int32) (M_235 : mi_H) (I_235 : rI) (R_235 : rR), (2147483648 - i235_3.toInt).toNat ≤ n_235 → RS g m0 q z I_235 R_235 M_235 → eqI [76] I_91 I_235 → eqR [] R_91 R_235 → (0 ≤ i235_3.toInt ∧ i235_3.toInt ≤ mn ∧ I_235 76 = some w8 ∧ (w8 < 0 → ∀ j, j < i235_3.toInt.toNat → ∀ p, R_91 80 j = some p → AIM f ca cl p)) → ml (mT g) d (mb_200 g).2 (235, [(0, .ref m0), (3, .int i235_3)], [], M_235) (fun v M' => ∃ (x : Int32) (I' : rI) (R' : rR), v = some (.int x) ∧ RS g m0 q z I' R' M' ∧ eqI [74, 75, 76, 77, 78, 79] I I' ∧ eqR [80, 81] R R' ∧ (x = 0 ∨ x = 1) ∧ (CUT f n I' R' ∧ I' 74 = some x1 ∧ (x = 0 ∨ ∃ w : Int32, I' 76 = some w ∧ w < 0))) := by
                    intro n_235
                    induction n_235 with
                    | zero => intro i235_3 w8 M_235 I_235 R_235 hn; exact (loop_zero hn).elim
                    | succ n_235 ih_235 =>
                      intro i235_3 w8 M_235 I_235 R_235 hn_235 hR_235 hI_235 hV_235 hi_235
                      obtain ⟨hk0, hkm, h76b, hal⟩ := hi_235
                      refine ml_blk 2 (S' := (237, [(0, .ref m0), (3, .int i235_3)], [.ref m0, .int i235_3], M_235)) rfl ?_
                      refine rg_int (S' := (240, [(0, .ref m0), (3, .int i235_3)], [.int (nI mn), .int i235_3], M_235)) rfl hR_235 rfl ((hI_235 75 (by decide)).trans (h75)) rfl ?_
                      refine ml_if2 (S1 := (279, [(0, .ref m0)], [], M_235)) (S2 := (243, [(0, .ref m0), (3, .int i235_3)], [], M_235)) rfl rfl rfl (fun c_240 => ?_) (fun c_240 => ?_)
                      · have c_240 : (nI mn) ≤ i235_3 := of_decide_eq_true c_240
                        refine ml_st (S' := (280, [(0, .ref m0)], [.ref m0], M_235)) rfl rfl rfl ?_
                        refine rg_int (S' := (283, [(0, .ref m0)], [.int w8], M_235)) rfl hR_235 rfl (h76b) rfl ?_
                        refine ml_if (S1 := (290, [(0, .ref m0)], [], M_235)) (S2 := (286, [(0, .ref m0)], [], M_235)) rfl rfl rfl (fun c_283 => ?_) (fun c_283 => ?_)
                        · have c_283 : 0 ≤ w8 := of_decide_eq_true c_283
                          refine ml_st (S' := (291, [], [.int 0], M_235)) rfl rfl rfl ?_
                          have hC58 : CK n ca cl I_235 R_235 := (((hCK.mono (cIx hI_68 (by decide)) (cRx hV_68 (by decide))).mono (cIx hI_91 (by decide)) (cRx hV_91 (by decide))).mono (cIx hI_235 (by decide)) (cRx hV_235 (by decide)))
                          exact ml_ret rfl (r_z (Or.inl rfl)) (⟨_, _, _, rfl, hR_235, (((((((((eqI.rf.put f15 (by decide)).put f20 (by decide)).put f25 (by decide)).put f30 (by decide)).put f35 (by decide)).put f40 (by decide)).tr hI_68 (by decide)).tr hI_91 (by decide)).tr hI_235 (by decide)), (((eqR.rf.tr hV_68 (by decide)).tr hV_91 (by decide)).tr hV_235 (by decide)), Or.inl rfl, ⟨⟨ca, cl, w8, mx, mn, hC58, (hI_235 75 (by decide)).trans (h75), h76b, (hI_235 79 (by decide)).trans ((hI_91 79 (by decide)).trans ((hI_68 79 (by decide)).trans ((f40 79 (by decide)).trans ((f35 79 (by decide)).trans (e29))))), by omega, hkb.eq (hV_235 81 (by decide)), fun k hk => by obtain ⟨p, hp, hi⟩ := hbg k hk; exact ⟨p, (congrFun (hV_235 80 (by decide)) _).trans hp, hi, fun hw => by first | exact hal hw k (by have q := i_le c_240; rw [nI_val (by omega)] at q; omega) p hp | exact absurd hw (Int32.not_lt.mpr c_247)⟩⟩, (hI_235 74 (by decide)).trans ((hI_91 74 (by decide)).trans ((hI_68 74 (by decide)).trans ((f40 74 (by decide)).trans ((f35 74 (by decide)).trans ((f30 74 (by decide)).trans ((f25 74 (by decide)).trans ((f20 74 (by decide)).trans (e14)))))))), Or.inl rfl⟩⟩)
                        · have c_283 : ¬ (0 ≤ w8) := of_decide_eq_false c_283
                          refine ml_st (S' := (287, [(0, .ref m0)], [.int 1], M_235)) rfl rfl rfl ?_
                          refine ml_st (S' := (291, [], [.int 1], M_235)) rfl rfl rfl ?_
                          have hC59 : CK n ca cl I_235 R_235 := (((hCK.mono (cIx hI_68 (by decide)) (cRx hV_68 (by decide))).mono (cIx hI_91 (by decide)) (cRx hV_91 (by decide))).mono (cIx hI_235 (by decide)) (cRx hV_235 (by decide)))
                          exact ml_ret rfl (r_z (Or.inr rfl)) (⟨_, _, _, rfl, hR_235, (((((((((eqI.rf.put f15 (by decide)).put f20 (by decide)).put f25 (by decide)).put f30 (by decide)).put f35 (by decide)).put f40 (by decide)).tr hI_68 (by decide)).tr hI_91 (by decide)).tr hI_235 (by decide)), (((eqR.rf.tr hV_68 (by decide)).tr hV_91 (by decide)).tr hV_235 (by decide)), Or.inr rfl, ⟨⟨ca, cl, w8, mx, mn, hC59, (hI_235 75 (by decide)).trans (h75), h76b, (hI_235 79 (by decide)).trans ((hI_91 79 (by decide)).trans ((hI_68 79 (by decide)).trans ((f40 79 (by decide)).trans ((f35 79 (by decide)).trans (e29))))), by omega, hkb.eq (hV_235 81 (by decide)), fun k hk => by obtain ⟨p, hp, hi⟩ := hbg k hk; exact ⟨p, (congrFun (hV_235 80 (by decide)) _).trans hp, hi, fun hw => by first | exact hal hw k (by have q := i_le c_240; rw [nI_val (by omega)] at q; omega) p hp | exact absurd hw (Int32.not_lt.mpr c_247)⟩⟩, (hI_235 74 (by decide)).trans ((hI_91 74 (by decide)).trans ((hI_68 74 (by decide)).trans ((f40 74 (by decide)).trans ((f35 74 (by decide)).trans ((f30 74 (by decide)).trans ((f25 74 (by decide)).trans ((f20 74 (by decide)).trans (e14)))))))), Or.inr ⟨w8, h76b, Int32.not_le.mp c_283⟩⟩⟩)
                      · have c_240 : ¬ ((nI mn) ≤ i235_3) := of_decide_eq_false c_240
                        refine ml_st (S' := (244, [(0, .ref m0), (3, .int i235_3)], [.ref m0], M_235)) rfl rfl rfl ?_
                        refine rg_int (S' := (247, [(0, .ref m0), (3, .int i235_3)], [.int w8], M_235)) rfl hR_235 rfl (h76b) rfl ?_
                        refine ml_if (S1 := (279, [(0, .ref m0)], [], M_235)) (S2 := (250, [(0, .ref m0), (3, .int i235_3)], [], M_235)) rfl rfl rfl (fun c_247 => ?_) (fun c_247 => ?_)
                        · have c_247 : 0 ≤ w8 := of_decide_eq_true c_247
                          refine ml_st (S' := (280, [(0, .ref m0)], [.ref m0], M_235)) rfl rfl rfl ?_
                          refine rg_int (S' := (283, [(0, .ref m0)], [.int w8], M_235)) rfl hR_235 rfl (h76b) rfl ?_
                          refine ml_if (S1 := (290, [(0, .ref m0)], [], M_235)) (S2 := (286, [(0, .ref m0)], [], M_235)) rfl rfl rfl (fun c_283 => ?_) (fun c_283 => ?_)
                          · have c_283 : 0 ≤ w8 := of_decide_eq_true c_283
                            refine ml_st (S' := (291, [], [.int 0], M_235)) rfl rfl rfl ?_
                            have hC60 : CK n ca cl I_235 R_235 := (((hCK.mono (cIx hI_68 (by decide)) (cRx hV_68 (by decide))).mono (cIx hI_91 (by decide)) (cRx hV_91 (by decide))).mono (cIx hI_235 (by decide)) (cRx hV_235 (by decide)))
                            exact ml_ret rfl (r_z (Or.inl rfl)) (⟨_, _, _, rfl, hR_235, (((((((((eqI.rf.put f15 (by decide)).put f20 (by decide)).put f25 (by decide)).put f30 (by decide)).put f35 (by decide)).put f40 (by decide)).tr hI_68 (by decide)).tr hI_91 (by decide)).tr hI_235 (by decide)), (((eqR.rf.tr hV_68 (by decide)).tr hV_91 (by decide)).tr hV_235 (by decide)), Or.inl rfl, ⟨⟨ca, cl, w8, mx, mn, hC60, (hI_235 75 (by decide)).trans (h75), h76b, (hI_235 79 (by decide)).trans ((hI_91 79 (by decide)).trans ((hI_68 79 (by decide)).trans ((f40 79 (by decide)).trans ((f35 79 (by decide)).trans (e29))))), by omega, hkb.eq (hV_235 81 (by decide)), fun k hk => by obtain ⟨p, hp, hi⟩ := hbg k hk; exact ⟨p, (congrFun (hV_235 80 (by decide)) _).trans hp, hi, fun hw => by first | exact hal hw k (by have q := i_le c_240; rw [nI_val (by omega)] at q; omega) p hp | exact absurd hw (Int32.not_lt.mpr c_247)⟩⟩, (hI_235 74 (by decide)).trans ((hI_91 74 (by decide)).trans ((hI_68 74 (by decide)).trans ((f40 74 (by decide)).trans ((f35 74 (by decide)).trans ((f30 74 (by decide)).trans ((f25 74 (by decide)).trans ((f20 74 (by decide)).trans (e14)))))))), Or.inl rfl⟩⟩)
                          · have c_283 : ¬ (0 ≤ w8) := of_decide_eq_false c_283
                            refine ml_st (S' := (287, [(0, .ref m0)], [.int 1], M_235)) rfl rfl rfl ?_
                            refine ml_st (S' := (291, [], [.int 1], M_235)) rfl rfl rfl ?_
                            have hC61 : CK n ca cl I_235 R_235 := (((hCK.mono (cIx hI_68 (by decide)) (cRx hV_68 (by decide))).mono (cIx hI_91 (by decide)) (cRx hV_91 (by decide))).mono (cIx hI_235 (by decide)) (cRx hV_235 (by decide)))
                            exact ml_ret rfl (r_z (Or.inr rfl)) (⟨_, _, _, rfl, hR_235, (((((((((eqI.rf.put f15 (by decide)).put f20 (by decide)).put f25 (by decide)).put f30 (by decide)).put f35 (by decide)).put f40 (by decide)).tr hI_68 (by decide)).tr hI_91 (by decide)).tr hI_235 (by decide)), (((eqR.rf.tr hV_68 (by decide)).tr hV_91 (by decide)).tr hV_235 (by decide)), Or.inr rfl, ⟨⟨ca, cl, w8, mx, mn, hC61, (hI_235 75 (by decide)).trans (h75), h76b, (hI_235 79 (by decide)).trans ((hI_91 79 (by decide)).trans ((hI_68 79 (by decide)).trans ((f40 79 (by decide)).trans ((f35 79 (by decide)).trans (e29))))), by omega, hkb.eq (hV_235 81 (by decide)), fun k hk => by obtain ⟨p, hp, hi⟩ := hbg k hk; exact ⟨p, (congrFun (hV_235 80 (by decide)) _).trans hp, hi, fun hw => by first | exact hal hw k (by have q := i_le c_240; rw [nI_val (by omega)] at q; omega) p hp | exact absurd hw (Int32.not_lt.mpr c_247)⟩⟩, (hI_235 74 (by decide)).trans ((hI_91 74 (by decide)).trans ((hI_68 74 (by decide)).trans ((f40 74 (by decide)).trans ((f35 74 (by decide)).trans ((f30 74 (by decide)).trans ((f25 74 (by decide)).trans ((f20 74 (by decide)).trans (e14)))))))), Or.inr ⟨w8, h76b, Int32.not_le.mp c_283⟩⟩⟩)
                        · have c_247 : ¬ (0 ≤ w8) := of_decide_eq_false c_247
                          have hkl : i235_3.toInt < mn := by have q := i_nle c_240; rw [nI_val (by omega)] at q; exact q
                          obtain ⟨p9, hp9, hi9⟩ := hbg i235_3.toNatClampNeg (by show i235_3.toInt.toNat < mn; omega)
                          have hkb9 : KB 81 cl.toInt.toNat R_235 := hkb.eq (hV_235 81 (by decide))
                          refine ml_blk 2 (S' := (252, [(0, .ref m0), (3, .int i235_3)], [.ref m0, .ref m0], M_235)) rfl ?_
                          refine rg_ref (S' := (255, [(0, .ref m0), (3, .int i235_3)], [.ref (q 80), .ref m0], M_235)) rfl hR_235 rfl rfl ?_
                          refine ml_st (S' := (256, [(0, .ref m0), (3, .int i235_3)], [.int i235_3, .ref (q 80), .ref m0], M_235)) rfl rfl rfl ?_
                          refine ra_ld (k := 80) (S' := (257, [(0, .ref m0), (3, .int i235_3)], [.int p9, .ref m0], M_235)) rfl hR_235 rfl (vin_lt hk0 (by omega)) ((congrFun (hV_235 80 (by decide)) _).trans hp9) rfl ?_
                          have hF62 : FK n f I_235 R_235 := (((((((((hF.mono (pIx f15 (by decide)) (fun _ _ => rfl)).mono (pIx f20 (by decide)) (fun _ _ => rfl)).mono (pIx f25 (by decide)) (fun _ _ => rfl)).mono (pIx f30 (by decide)) (fun _ _ => rfl)).mono (pIx f35 (by decide)) (fun _ _ => rfl)).mono (pIx f40 (by decide)) (fun _ _ => rfl)).mono (cIx hI_68 (by decide)) (cRx hV_68 (by decide))).mono (cIx hI_91 (by decide)) (cRx hV_91 (by decide))).mono (cIx hI_235 (by decide)) (cRx hV_235 (by decide)))
                          have hC63 : CK n ca cl I_235 R_235 := (((hCK.mono (cIx hI_68 (by decide)) (cRx hV_68 (by decide))).mono (cIx hI_91 (by decide)) (cRx hV_91 (by decide))).mono (cIx hI_235 (by decide)) (cRx hV_235 (by decide)))
                          refine ml_call (a := [.ref m0, .int p9]) (rest := []) rfl (hR_235.okc rfl rfl rfl) rfl rfl (rm_aims hR_235 hF62 hC63 (hi9) (hkb9) (by omega)) (fun v64 M65 h66 => ?_)
                          obtain ⟨⟨u67, rfl, z68, w69⟩, h66⟩ := h66
                          rw [h66]
                          show ml _ _ _ (260, [(0, .ref m0), (3, .int i235_3)], [.int u67], M_235) _
                          have haimx := w69
                          refine ml_if (S1 := (273, [(0, .ref m0), (3, .int i235_3)], [], M_235)) (S2 := (263, [(0, .ref m0), (3, .int i235_3)], [], M_235)) rfl rfl rfl (fun c_260 => ?_) (fun c_260 => ?_)
                          · have c_260 : ¬ u67 = 0 := of_decide_eq_true c_260
                            have haim := haimx.resolve_left c_260
                            refine ml_st (S' := (276, [(3, .int (i235_3 + 1)), (0, .ref m0)], [], M_235)) rfl rfl rfl ?_
                            refine ml_st (S' := (235, [(0, .ref m0), (3, .int (i235_3 + 1))], [], M_235)) rfl rfl rfl ?_
                            exact ih_235 (i235_3 + 1) w8 _ _ _ (loop_inc (Int32.not_le.mp c_240) hn_235) hR_235 (eqI.rf.tr hI_235 (by decide)) (eqR.rf.tr hV_235 (by decide)) (⟨by rw [inc_lt (Int32.not_le.mp c_240)]; omega, by rw [inc_lt (Int32.not_le.mp c_240)]; omega, h76b, fun hw j hj p hp => by rw [inc_lt (Int32.not_le.mp c_240)] at hj; have e9 : i235_3.toNatClampNeg = i235_3.toInt.toNat := rfl; by_cases e : j = i235_3.toNatClampNeg; (have e2 : some p9 = some p := hp9.symm.trans (e ▸ hp); cases e2; exact haim); exact hal hw j (by omega) p hp⟩)
                          · have c_260 : ¬ (¬ u67 = 0) := of_decide_eq_false c_260
                            refine ml_blk 2 (S' := (265, [(0, .ref m0), (3, .int i235_3)], [.ref m0, .ref m0], M_235)) rfl ?_
                            refine rg_ref (S' := (268, [(0, .ref m0), (3, .int i235_3)], [.ref (q 80), .ref m0], M_235)) rfl hR_235 rfl rfl ?_
                            refine ml_st (S' := (269, [(0, .ref m0), (3, .int i235_3)], [.int i235_3, .ref (q 80), .ref m0], M_235)) rfl rfl rfl ?_
                            refine ra_ld (k := 80) (S' := (270, [(0, .ref m0), (3, .int i235_3)], [.int p9, .ref m0], M_235)) rfl hR_235 rfl (vin_lt hk0 (by omega)) ((congrFun (hV_235 80 (by decide)) _).trans hp9) rfl ?_
                            refine rp_int rfl hR_235 rfl (fun M70 I71 hR72 e73 f74 => ?_)
                            show ml _ _ _ (273, [(0, .ref m0), (3, .int i235_3)], [], M70) _
                            refine ml_st (S' := (276, [(3, .int (i235_3 + 1)), (0, .ref m0)], [], M70)) rfl rfl rfl ?_
                            refine ml_st (S' := (235, [(0, .ref m0), (3, .int (i235_3 + 1))], [], M70)) rfl rfl rfl ?_
                            exact ih_235 (i235_3 + 1) p9 _ _ _ (loop_inc (Int32.not_le.mp c_240) hn_235) hR72 ((eqI.rf.tr hI_235 (by decide)).put f74 (by decide)) (eqR.rf.tr hV_235 (by decide)) (⟨by rw [inc_lt (Int32.not_le.mp c_240)]; omega, by rw [inc_lt (Int32.not_le.mp c_240)]; omega, e73, fun hw => absurd hw (nlt0 hi9.1)⟩)
                  exact L_235 _ 0 w9 _ _ _ (Nat.le_refl _) hR_91 eqI.rf eqR.rf (⟨by decide, by have : (0 : Int32).toInt = 0 := rfl; omega, h76, fun _ j hj => absurd hj (Nat.not_lt_zero j)⟩)
                · have c_103 : ¬ (0 ≤ w9) := of_decide_eq_false c_103
                  have hlt := i_nle c_96
                  refine ml_blk 2 (S' := (108, [(0, .ref m0), (2, .int i91_2)], [.int i91_2, .ref m0], M_91)) rfl ?_
                  have hF75 : FK n f I_91 R_91 := ((((((((hF.mono (pIx f15 (by decide)) (fun _ _ => rfl)).mono (pIx f20 (by decide)) (fun _ _ => rfl)).mono (pIx f25 (by decide)) (fun _ _ => rfl)).mono (pIx f30 (by decide)) (fun _ _ => rfl)).mono (pIx f35 (by decide)) (fun _ _ => rfl)).mono (pIx f40 (by decide)) (fun _ _ => rfl)).mono (cIx hI_68 (by decide)) (cRx hV_68 (by decide))).mono (cIx hI_91 (by decide)) (cRx hV_91 (by decide)))
                  have hC76 : CK n ca cl I_91 R_91 := ((hCK.mono (cIx hI_68 (by decide)) (cRx hV_68 (by decide))).mono (cIx hI_91 (by decide)) (cRx hV_91 (by decide)))
                  refine ml_call (a := [.ref m0, .int i91_2]) (rest := []) rfl (hR_91.okc rfl rfl rfl) rfl rfl (rm_b1 hR_91 hF75 hC76 (hp0) (by omega) (by omega)) (fun v77 M78 h79 => ?_)
                  obtain ⟨rfl, h79⟩ := h79
                  rw [h79]
                  show ml _ _ _ (111, [(0, .ref m0), (2, .int i91_2)], [.int (f1 f (ca + i91_2))], M_91) _
                  refine ml_st (S' := (112, [(3, .int (f1 f (ca + i91_2))), (0, .ref m0), (2, .int i91_2)], [], M_91)) rfl rfl rfl ?_
                  refine ml_blk 2 (S' := (116, [(3, .int (f1 f (ca + i91_2))), (0, .ref m0), (2, .int i91_2)], [.int 201, .int (f1 f (ca + i91_2))], M_91)) rfl ?_
                  have J_163 : ∀ (s163_0 : Int32), (s163_0 < 0 ∨ INP f ca cl i91_2 s163_0) → ml (mT g) d (mb_200 g).2 (163, [(0, .ref m0), (2, .int i91_2), (3, .int (f1 f (ca + i91_2)))], [.int s163_0], M_91) (fun v M' => ∃ (x : Int32) (I' : rI) (R' : rR), v = some (.int x) ∧ RS g m0 q z I' R' M' ∧ eqI [74, 75, 76, 77, 78, 79] I I' ∧ eqR [80, 81] R R' ∧ (x = 0 ∨ x = 1) ∧ (CUT f n I' R' ∧ I' 74 = some x1 ∧ (x = 0 ∨ ∃ w : Int32, I' 76 = some w ∧ w < 0))) := by
                    intro s163_0 hj_163
                    refine ml_st (S' := (165, [(4, .int s163_0), (0, .ref m0), (2, .int i91_2), (3, .int (f1 f (ca + i91_2)))], [], M_91)) rfl rfl rfl ?_
                    refine ml_st (S' := (167, [(4, .int s163_0), (0, .ref m0), (2, .int i91_2), (3, .int (f1 f (ca + i91_2)))], [.int s163_0], M_91)) rfl rfl rfl ?_
                    refine ml_if (S1 := (190, [(0, .ref m0), (2, .int i91_2)], [], M_91)) (S2 := (170, [(4, .int s163_0), (0, .ref m0), (2, .int i91_2), (3, .int (f1 f (ca + i91_2)))], [], M_91)) rfl rfl rfl (fun c_167 => ?_) (fun c_167 => ?_)
                    · have c_167 : s163_0 < 0 := of_decide_eq_true c_167
                      refine ml_blk 2 (S' := (192, [(0, .ref m0), (2, .int i91_2)], [.int i91_2, .ref m0], M_91)) rfl ?_
                      refine rp_int rfl hR_91 rfl (fun M80 I81 hR82 e83 f84 => ?_)
                      show ml _ _ _ (195, [(0, .ref m0), (2, .int i91_2)], [], M80) _
                      refine ml_st (S' := (230, [(0, .ref m0), (2, .int i91_2)], [], M80)) rfl rfl rfl ?_
                      refine ml_st (S' := (91, [(0, .ref m0), (2, .int i91_2)], [], M80)) rfl rfl rfl ?_
                      exact ih_91 i91_2 mn i91_2 _ _ _ (by rw [if_pos (Int32.not_le.mp c_103)] at hn_91; rw [if_neg (nlt0 hp0)]; omega) hR82 ((eqI.rf.tr hI_91 (by decide)).put f84 (by decide)) (eqR.rf.tr hV_91 (by decide)) (⟨hp0, hp1, hmn, (f84 75 (by decide)).trans (h75), e83, hkb, hbg⟩)
                    · have c_167 : ¬ (s163_0 < 0) := of_decide_eq_false c_167
                      have hip := hj_163.resolve_left c_167
                      have hsum : (i91_2 + s163_0).toInt = i91_2.toInt + s163_0.toInt := i_add (by have := hip.1; omega) (by have := hip.2.1; omega)
                      refine ml_blk 3 (S' := (174, [(4, .int s163_0), (0, .ref m0), (2, .int i91_2), (3, .int (f1 f (ca + i91_2)))], [.int (i91_2 + s163_0)], M_91)) rfl ?_
                      refine ml_st (S' := (175, [(4, .int s163_0), (0, .ref m0), (2, .int i91_2), (3, .int (f1 f (ca + i91_2)))], [.ref m0, .int (i91_2 + s163_0)], M_91)) rfl rfl rfl ?_
                      refine rg_int (S' := (178, [(4, .int s163_0), (0, .ref m0), (2, .int i91_2), (3, .int (f1 f (ca + i91_2)))], [.int cl, .int (i91_2 + s163_0)], M_91)) rfl hR_91 rfl ((hI_91 78 (by decide)).trans ((hI_68 78 (by decide)).trans ((f40 78 (by decide)).trans ((f35 78 (by decide)).trans ((f30 78 (by decide)).trans (e24)))))) rfl ?_
                      refine ml_if2 (S1 := (190, [(0, .ref m0), (2, .int i91_2)], [], M_91)) (S2 := (181, [(4, .int s163_0), (0, .ref m0), (2, .int i91_2), (3, .int (f1 f (ca + i91_2)))], [], M_91)) rfl rfl rfl (fun c_178 => ?_) (fun c_178 => ?_)
                      · have c_178 : cl < (i91_2 + s163_0) := of_decide_eq_true c_178
                        refine ml_blk 2 (S' := (192, [(0, .ref m0), (2, .int i91_2)], [.int i91_2, .ref m0], M_91)) rfl ?_
                        refine rp_int rfl hR_91 rfl (fun M85 I86 hR87 e88 f89 => ?_)
                        show ml _ _ _ (195, [(0, .ref m0), (2, .int i91_2)], [], M85) _
                        refine ml_st (S' := (230, [(0, .ref m0), (2, .int i91_2)], [], M85)) rfl rfl rfl ?_
                        refine ml_st (S' := (91, [(0, .ref m0), (2, .int i91_2)], [], M85)) rfl rfl rfl ?_
                        exact ih_91 i91_2 mn i91_2 _ _ _ (by rw [if_pos (Int32.not_le.mp c_103)] at hn_91; rw [if_neg (nlt0 hp0)]; omega) hR87 ((eqI.rf.tr hI_91 (by decide)).put f89 (by decide)) (eqR.rf.tr hV_91 (by decide)) (⟨hp0, hp1, hmn, (f89 75 (by decide)).trans (h75), e88, hkb, hbg⟩)
                      · have c_178 : ¬ (cl < (i91_2 + s163_0)) := of_decide_eq_false c_178
                        have hle : i91_2.toInt + s163_0.toInt ≤ cl.toInt := by have q := i_nlt c_178; omega
                        refine ml_blk 3 (S' := (184, [(4, .int s163_0), (0, .ref m0), (2, .int i91_2), (3, .int (f1 f (ca + i91_2)))], [.int (f1 f (ca + i91_2)), .int i91_2, .ref m0], M_91)) rfl ?_
                        have hY90 : SK S cN sa sl ch I_91 R_91 := ((((((((hY.mono (pIx f15 (by decide)) (fun _ _ => rfl)).mono (pIx f20 (by decide)) (fun _ _ => rfl)).mono (pIx f25 (by decide)) (fun _ _ => rfl)).mono (pIx f30 (by decide)) (fun _ _ => rfl)).mono (pIx f35 (by decide)) (fun _ _ => rfl)).mono (pIx f40 (by decide)) (fun _ _ => rfl)).mono (cIx hI_68 (by decide)) (cRx hV_68 (by decide))).mono (cIx hI_91 (by decide)) (cRx hV_91 (by decide)))
                        have hP91 : PK n f S cp mj pa py I_91 R_91 := ((((((((hP.mono (pIx f15 (by decide)) (fun _ _ => rfl)).mono (pIx f20 (by decide)) (fun _ _ => rfl)).mono (pIx f25 (by decide)) (fun _ _ => rfl)).mono (pIx f30 (by decide)) (fun _ _ => rfl)).mono (pIx f35 (by decide)) (fun _ _ => rfl)).mono (pIx f40 (by decide)) (fun _ _ => rfl)).mono (cIx hI_68 (by decide)) (cRx hV_68 (by decide))).mono (cIx hI_91 (by decide)) (cRx hV_91 (by decide)))
                        refine ml_call (a := [.ref m0, .int i91_2, .int (f1 f (ca + i91_2))]) (rest := []) rfl (hR_91.okc rfl rfl rfl) rfl rfl (rm_operands hR_91 ((hI_91 9 (by decide)).trans ((hI_68 9 (by decide)).trans ((f40 9 (by decide)).trans ((f35 9 (by decide)).trans ((f30 9 (by decide)).trans ((f25 9 (by decide)).trans ((f20 9 (by decide)).trans ((f15 9 (by decide)).trans (hk9))))))))) ((hI_91 79 (by decide)).trans ((hI_68 79 (by decide)).trans ((f40 79 (by decide)).trans ((f35 79 (by decide)).trans (e29))))) hF75 hY90 hP91 hE hC76 (hp0) (hip.2.2.1) (hle) (by omega)) (fun v92 M93 h94 => ?_)
                        obtain ⟨⟨u95, rfl, z96⟩, h94⟩ := h94
                        rw [h94]
                        show ml _ _ _ (187, [(4, .int s163_0), (0, .ref m0), (2, .int i91_2), (3, .int (f1 f (ca + i91_2)))], [.int u95], M_91) _
                        refine ml_if (S1 := (198, [(4, .int s163_0), (0, .ref m0), (2, .int i91_2), (3, .int (f1 f (ca + i91_2)))], [], M_91)) (S2 := (190, [(0, .ref m0), (2, .int i91_2)], [], M_91)) rfl rfl rfl (fun c_187 => ?_) (fun c_187 => ?_)
                        · have c_187 : ¬ u95 = 0 := of_decide_eq_true c_187
                          have hins : INS f ca cl i91_2 := ⟨hp0, s163_0.toInt, hip.1, hle, hip.2.2.1, hip.2.2.2.1, hip.2.2.2.2⟩
                          have hN1 := nI_s1 (c := mn) (by omega)
                          have hNv : (nI mn).toInt = mn := nI_val (by omega)
                          have hip1 := hip.1
                          refine ml_st (S' := (199, [(4, .int s163_0), (0, .ref m0), (2, .int i91_2), (3, .int (f1 f (ca + i91_2)))], [.ref m0], M_91)) rfl rfl rfl ?_
                          refine rg_ref (S' := (202, [(4, .int s163_0), (0, .ref m0), (2, .int i91_2), (3, .int (f1 f (ca + i91_2)))], [.ref (q 81)], M_91)) rfl hR_91 rfl rfl ?_
                          refine ml_blk 2 (S' := (204, [(4, .int s163_0), (0, .ref m0), (2, .int i91_2), (3, .int (f1 f (ca + i91_2)))], [.ref m0, .int i91_2, .ref (q 81)], M_91)) rfl ?_
                          refine rg_int (S' := (207, [(4, .int s163_0), (0, .ref m0), (2, .int i91_2), (3, .int (f1 f (ca + i91_2)))], [.int (nI mn), .int i91_2, .ref (q 81)], M_91)) rfl hR_91 rfl (h75) rfl ?_
                          refine ra_st (k := 81) rfl hR_91 rfl (vin_lt hp0 (by omega)) (fun M97 R98 hR99 e100 g101 f102 => ?_)
                          show ml _ _ _ (208, [(4, .int s163_0), (0, .ref m0), (2, .int i91_2), (3, .int (f1 f (ca + i91_2)))], [], M97) _
                          refine ml_st (S' := (209, [(4, .int s163_0), (0, .ref m0), (2, .int i91_2), (3, .int (f1 f (ca + i91_2)))], [.ref m0], M97)) rfl rfl rfl ?_
                          refine rg_ref (S' := (212, [(4, .int s163_0), (0, .ref m0), (2, .int i91_2), (3, .int (f1 f (ca + i91_2)))], [.ref (q 80)], M97)) rfl hR99 rfl rfl ?_
                          refine ml_blk 2 (S' := (214, [(4, .int s163_0), (0, .ref m0), (2, .int i91_2), (3, .int (f1 f (ca + i91_2)))], [.ref m0, .ref m0, .ref (q 80)], M97)) rfl ?_
                          refine rg_int (S' := (217, [(4, .int s163_0), (0, .ref m0), (2, .int i91_2), (3, .int (f1 f (ca + i91_2)))], [.int (nI mn), .ref m0, .ref (q 80)], M97)) rfl hR99 rfl (h75) rfl ?_
                          refine ml_blk 3 (S' := (220, [(4, .int s163_0), (0, .ref m0), (2, .int i91_2), (3, .int (f1 f (ca + i91_2)))], [.int ((nI mn) + 1), .ref m0, .int (nI mn), .ref (q 80)], M97)) rfl ?_
                          refine rp_int rfl hR99 rfl (fun M103 I104 hR105 e106 f107 => ?_)
                          show ml _ _ _ (223, [(4, .int s163_0), (0, .ref m0), (2, .int i91_2), (3, .int (f1 f (ca + i91_2)))], [.int (nI mn), .ref (q 80)], M103) _
                          refine ml_st (S' := (224, [(4, .int s163_0), (0, .ref m0), (2, .int i91_2), (3, .int (f1 f (ca + i91_2)))], [.int i91_2, .int (nI mn), .ref (q 80)], M103)) rfl rfl rfl ?_
                          refine ra_st (k := 80) rfl hR105 rfl (vin_lt (by omega) (by omega)) (fun M108 R109 hR110 e111 g112 f113 => ?_)
                          show ml _ _ _ (225, [(4, .int s163_0), (0, .ref m0), (2, .int i91_2), (3, .int (f1 f (ca + i91_2)))], [], M108) _
                          refine ml_blk 3 (S' := (229, [(4, .int s163_0), (0, .ref m0), (2, .int i91_2), (3, .int (f1 f (ca + i91_2)))], [.int (i91_2 + s163_0)], M108)) rfl ?_
                          refine ml_st (S' := (230, [(0, .ref m0), (2, .int (i91_2 + s163_0))], [], M108)) rfl rfl rfl ?_
                          refine ml_st (S' := (91, [(0, .ref m0), (2, .int (i91_2 + s163_0))], [], M108)) rfl rfl rfl ?_
                          exact ih_91 (i91_2 + s163_0) (mn + 1) w9 _ _ _ (by rw [if_pos (Int32.not_le.mp c_103)] at hn_91; rw [if_pos (Int32.not_le.mp c_103)]; omega) hR110 ((eqI.rf.tr hI_91 (by decide)).put f107 (by decide)) (((eqR.rf.tr hV_91 (by decide)).put f102 (by decide)).put f113 (by decide)) (⟨by omega, by omega, by omega, by rw [← hN1]; exact e106, (f107 76 (by decide)).trans (h76), (hkb.set e100 g101).eq (f113 81 (by decide)), (hbg.eq (f102 80 (by decide))).put hNv e111 g112 hins⟩)
                        · have c_187 : ¬ (¬ u95 = 0) := of_decide_eq_false c_187
                          refine ml_blk 2 (S' := (192, [(0, .ref m0), (2, .int i91_2)], [.int i91_2, .ref m0], M_91)) rfl ?_
                          refine rp_int rfl hR_91 rfl (fun M114 I115 hR116 e117 f118 => ?_)
                          show ml _ _ _ (195, [(0, .ref m0), (2, .int i91_2)], [], M114) _
                          refine ml_st (S' := (230, [(0, .ref m0), (2, .int i91_2)], [], M114)) rfl rfl rfl ?_
                          refine ml_st (S' := (91, [(0, .ref m0), (2, .int i91_2)], [], M114)) rfl rfl rfl ?_
                          exact ih_91 i91_2 mn i91_2 _ _ _ (by rw [if_pos (Int32.not_le.mp c_103)] at hn_91; rw [if_neg (nlt0 hp0)]; omega) hR116 ((eqI.rf.tr hI_91 (by decide)).put f118 (by decide)) (eqR.rf.tr hV_91 (by decide)) (⟨hp0, hp1, hmn, (f118 75 (by decide)).trans (h75), e117, hkb, hbg⟩)
                  refine ml_if2 (S1 := (123, [(3, .int (f1 f (ca + i91_2))), (0, .ref m0), (2, .int i91_2)], [], M_91)) (S2 := (119, [(3, .int (f1 f (ca + i91_2))), (0, .ref m0), (2, .int i91_2)], [], M_91)) rfl rfl rfl (fun c_116 => ?_) (fun c_116 => ?_)
                  · have c_116 : (f1 f (ca + i91_2)) ≤ 201 := of_decide_eq_true c_116
                    refine ml_blk 2 (S' := (127, [(3, .int (f1 f (ca + i91_2))), (0, .ref m0), (2, .int i91_2)], [.int 170, .int (f1 f (ca + i91_2))], M_91)) rfl ?_
                    have J_144 : ((f1 f (ca + i91_2) = 170 ∨ f1 f (ca + i91_2) = 171) ∨ f1 f (ca + i91_2) = 196) → ml (mT g) d (mb_200 g).2 (144, [(0, .ref m0), (2, .int i91_2), (3, .int (f1 f (ca + i91_2)))], [], M_91) (fun v M' => ∃ (x : Int32) (I' : rI) (R' : rR), v = some (.int x) ∧ RS g m0 q z I' R' M' ∧ eqI [74, 75, 76, 77, 78, 79] I I' ∧ eqR [80, 81] R R' ∧ (x = 0 ∨ x = 1) ∧ (CUT f n I' R' ∧ I' 74 = some x1 ∧ (x = 0 ∨ ∃ w : Int32, I' 76 = some w ∧ w < 0))) := by
                      intro hj_144
                      refine ml_blk 3 (S' := (147, [(0, .ref m0), (2, .int i91_2), (3, .int (f1 f (ca + i91_2)))], [.int (f1 f (ca + i91_2)), .int i91_2, .ref m0], M_91)) rfl ?_
                      refine ml_call (a := [.ref m0, .int i91_2, .int (f1 f (ca + i91_2))]) (rest := []) rfl (hR_91.okc rfl rfl rfl) rfl rfl (rm_formed hR_91 hF75 hC76 (hp0) (hlt) (rfl) (hj_144) (by omega)) (fun v119 M120 h121 => ?_)
                      obtain ⟨⟨u122, rfl, w123⟩, h121⟩ := h121
                      rw [h121]
                      show ml _ _ _ (150, [(0, .ref m0), (2, .int i91_2), (3, .int (f1 f (ca + i91_2)))], [.int u122], M_91) _
                      refine ml_st (S' := (163, [(0, .ref m0), (2, .int i91_2), (3, .int (f1 f (ca + i91_2)))], [.int u122], M_91)) rfl rfl rfl ?_
                      exact J_163 u122 (w123.imp id (fun h => frm_ok hj_144 h))
                    refine ml_if2 (S1 := (144, [(0, .ref m0), (2, .int i91_2), (3, .int (f1 f (ca + i91_2)))], [], M_91)) (S2 := (130, [(3, .int (f1 f (ca + i91_2))), (0, .ref m0), (2, .int i91_2)], [], M_91)) rfl rfl rfl (fun c_127 => ?_) (fun c_127 => ?_)
                    · have c_127 : (f1 f (ca + i91_2)) = 170 := of_decide_eq_true c_127
                      exact J_144  (Or.inl (Or.inl c_127))
                    · have c_127 : ¬ ((f1 f (ca + i91_2)) = 170) := of_decide_eq_false c_127
                      refine ml_blk 2 (S' := (134, [(3, .int (f1 f (ca + i91_2))), (0, .ref m0), (2, .int i91_2)], [.int 171, .int (f1 f (ca + i91_2))], M_91)) rfl ?_
                      refine ml_if2 (S1 := (144, [(0, .ref m0), (2, .int i91_2), (3, .int (f1 f (ca + i91_2)))], [], M_91)) (S2 := (137, [(3, .int (f1 f (ca + i91_2))), (0, .ref m0), (2, .int i91_2)], [], M_91)) rfl rfl rfl (fun c_134 => ?_) (fun c_134 => ?_)
                      · have c_134 : (f1 f (ca + i91_2)) = 171 := of_decide_eq_true c_134
                        exact J_144  (Or.inl (Or.inr c_134))
                      · have c_134 : ¬ ((f1 f (ca + i91_2)) = 171) := of_decide_eq_false c_134
                        refine ml_blk 2 (S' := (141, [(3, .int (f1 f (ca + i91_2))), (0, .ref m0), (2, .int i91_2)], [.int 196, .int (f1 f (ca + i91_2))], M_91)) rfl ?_
                        refine ml_if2 (S1 := (153, [(3, .int (f1 f (ca + i91_2))), (0, .ref m0), (2, .int i91_2)], [], M_91)) (S2 := (144, [(0, .ref m0), (2, .int i91_2), (3, .int (f1 f (ca + i91_2)))], [], M_91)) rfl rfl rfl (fun c_141 => ?_) (fun c_141 => ?_)
                        · have c_141 : ¬ (f1 f (ca + i91_2)) = 196 := of_decide_eq_true c_141
                          refine ml_blk 2 (S' := (157, [(3, .int (f1 f (ca + i91_2))), (0, .ref m0), (2, .int i91_2)], [.int (f1 f (ca + i91_2)), .ref (g.2.1 29)], M_91)) rfl ?_
                          obtain ⟨fl124, hl125⟩ := hR_91.2.2.2.2.2 29 (by decide)
                          refine ml_scat (lk := 29) (S' := (160, [(3, .int (f1 f (ca + i91_2))), (0, .ref m0), (2, .int i91_2)], [.int (xe_ch 29 (Int32.toNatClampNeg (f1 f (ca + i91_2))))], M_91)) rfl hl125 (by decide) rfl (nlt0 f1_pos.1) (by rw [len_len]; show (f1 f (ca + i91_2)).toInt.toNat < 202; have q := i_le c_116; have : (201 : Int32).toInt = 201 := rfl; omega) rfl ?_
                          refine ml_blk 2 (S' := (163, [(0, .ref m0), (2, .int i91_2), (3, .int (f1 f (ca + i91_2)))], [.int ((xe_ch 29 (Int32.toNatClampNeg (f1 f (ca + i91_2)))) - 48)], M_91)) rfl ?_
                          exact J_163 ((xe_ch 29 (Int32.toNatClampNeg (f1 f (ca + i91_2)))) - 48) (Or.inr (len_op c_116 c_127 c_134 c_141))
                        · have c_141 : ¬ (¬ (f1 f (ca + i91_2)) = 196) := of_decide_eq_false c_141
                          exact J_144  (Or.inr (Decidable.not_not.mp c_141))
                  · have c_116 : ¬ ((f1 f (ca + i91_2)) ≤ 201) := of_decide_eq_false c_116
                    refine ml_st (S' := (120, [(3, .int (f1 f (ca + i91_2))), (0, .ref m0), (2, .int i91_2)], [.int (-1)], M_91)) rfl rfl rfl ?_
                    refine ml_st (S' := (163, [(0, .ref m0), (2, .int i91_2), (3, .int (f1 f (ca + i91_2)))], [.int (-1)], M_91)) rfl rfl rfl ?_
                    exact J_163 (-1) (Or.inl (by decide))
          exact L_91 _ 0 0 (-1) _ _ _ (Nat.le_refl _) hR_68 eqI.rf eqR.rf (⟨by decide, hcl, by decide, (hI_68 75 (by decide)).trans ((f40 75 (by decide)).trans (e34)), (hI_68 76 (by decide)).trans (e39), hkb0, fun k hk => absurd hk (Nat.not_lt_zero k)⟩)
        · have c_73 : ¬ (cl ≤ i68_2) := of_decide_eq_false c_73
          refine ml_st (S' := (77, [(0, .ref m0), (2, .int i68_2)], [.ref m0], M_68)) rfl rfl rfl ?_
          refine rg_ref (S' := (80, [(0, .ref m0), (2, .int i68_2)], [.ref (q 81)], M_68)) rfl hR_68 rfl rfl ?_
          refine ml_blk 2 (S' := (82, [(0, .ref m0), (2, .int i68_2)], [.int (-1), .int i68_2, .ref (q 81)], M_68)) rfl ?_
          refine ra_st (k := 81) rfl hR_68 rfl (vin_lt hk0 (by have := i_nle c_73; omega)) (fun M126 R127 hR128 e129 g130 f131 => ?_)
          show ml _ _ _ (83, [(0, .ref m0), (2, .int i68_2)], [], M126) _
          refine ml_st (S' := (86, [(2, .int (i68_2 + 1)), (0, .ref m0)], [], M126)) rfl rfl rfl ?_
          refine ml_st (S' := (68, [(0, .ref m0), (2, .int (i68_2 + 1))], [], M126)) rfl rfl rfl ?_
          exact ih_68 (i68_2 + 1) _ _ _ (loop_inc (Int32.not_le.mp c_73) hn_68) hR128 (eqI.rf.tr hI_68 (by decide)) ((eqR.rf.tr hV_68 (by decide)).put f131 (by decide)) (⟨by rw [inc_lt (Int32.not_le.mp c_73)]; omega, by rw [inc_lt (Int32.not_le.mp c_73)]; have := i_nle c_73; omega, by rw [show (i68_2 + 1).toInt.toNat = i68_2.toInt.toNat + 1 by rw [inc_lt (Int32.not_le.mp c_73)]; omega]; exact hk81.put (by omega) e129 g130⟩)
    exact L_68 _ 0 _ _ _ (Nat.le_refl _) hR38 eqI.rf eqR.rf (⟨by decide, hcl, fun i hi => absurd hi (Nat.not_lt_zero i)⟩)
  · have c_5 : ¬ (¬ co = x1) := of_decide_eq_false c_5
    have hc8 := hCI (Decidable.not_not.mp c_5)
    obtain ⟨ca2, cl2, wc2, mx2, mn2, hC2, h75, hw76, h79, hr2⟩ := hc8
    refine ml_st (S' := (9, [(0, .ref m0), (1, .int x1)], [.ref m0], M)) rfl rfl rfl ?_
    refine rg_int (S' := (12, [(0, .ref m0), (1, .int x1)], [.int wc2], M)) rfl hR rfl (hw76) rfl ?_
    refine ml_if (S1 := (19, [(0, .ref m0), (1, .int x1)], [], M)) (S2 := (15, [(0, .ref m0), (1, .int x1)], [], M)) rfl rfl rfl (fun c_12 => ?_) (fun c_12 => ?_)
    · have c_12 : 0 ≤ wc2 := of_decide_eq_true c_12
      refine ml_st (S' := (20, [], [.int 0], M)) rfl rfl rfl ?_
      exact ml_ret rfl (r_z (Or.inl rfl)) (⟨_, _, _, rfl, hR, eqI.rf, eqR.rf, Or.inl rfl, ⟨hCI (Decidable.not_not.mp c_5), (Decidable.not_not.mp c_5) ▸ hk74, Or.inl rfl⟩⟩)
    · have c_12 : ¬ (0 ≤ wc2) := of_decide_eq_false c_12
      refine ml_st (S' := (16, [(0, .ref m0), (1, .int x1)], [.int 1], M)) rfl rfl rfl ?_
      refine ml_st (S' := (20, [], [.int 1], M)) rfl rfl rfl ?_
      exact ml_ret rfl (r_z (Or.inr rfl)) (⟨_, _, _, rfl, hR, eqI.rf, eqR.rf, Or.inr rfl, ⟨hCI (Decidable.not_not.mp c_5), (Decidable.not_not.mp c_5) ▸ hk74, Or.inr ⟨wc2, hw76, Int32.not_le.mp c_12⟩⟩⟩)
