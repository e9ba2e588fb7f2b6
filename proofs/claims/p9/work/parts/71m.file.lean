/-! the reference: the whole check (laid by wip/p2/c71.py) -/
set_option maxHeartbeats 2000000 in
theorem rm_checkFile {g : xe_G}  {m0 : Nat} {q : Nat → Nat} {z : Nat × Nat} {I : rI} {R : rR} {M : mi_H} {si sc so : Int32} {n : Nat} {f : Nat → Int32} {S cN : Nat}  (hR : RS g m0 q z I R M) (hk20 : I 20 = some 0) (hk25 : I 25 = some 0) (hk26 : I 26 = some 0) (hk9 : I 9 = some si) (hk10 : I 10 = some sc) (hk11 : I 11 = some so) (hF : FK n f I R) (hZ : SYM S cN I R) (hK : KW I R) (hS3 : S ≤ 3) (hC3 : cN ≤ 30) {d : Nat} (hd : 9 ≤ d) : mt (mT g) d 190 [.ref m0] M (fun v M' => ∃ (x : Int32) (I' : rI) (R' : rR), v = some (.int x) ∧ RS g m0 q z I' R' M' ∧ eqI [3, 8, 20, 25, 26, 47, 48, 50, 51, 52, 53, 54, 55, 56, 57, 58, 59, 60, 61, 65, 66, 67, 68, 69, 70, 71, 72] I I' ∧ eqR [1, 2, 4, 5, 6, 7, 21, 22, 27, 28, 29, 30, 31, 32, 33, 34, 35, 36, 37, 38, 39, 40, 41, 42, 43, 44, 45, 46] R R' ∧ (x = 0 ∨ x = 1) ∧ (x = 0 ∨ GD n f I' R')) := by
  obtain ⟨d, rfl⟩ : ∃ e, d = e + 1 := ⟨d - 1, by omega⟩
  refine mt_in (b := mb_190 g) rfl rfl ?_
  show ml (mT g) d (mb_190 g).2 (0, [(0, .ref m0)], [], M) _
  have hn := hF.1
  refine ml_blk 2 (S' := (2, [(0, .ref m0)], [.int (-1), .ref m0], M)) rfl ?_
  refine rp_int rfl hR rfl (fun M11 I12 hR13 e14 f15 => ?_)
  show ml _ _ _ (5, [(0, .ref m0)], [], M11) _
  refine ml_blk 2 (S' := (7, [(0, .ref m0)], [.int 0, .ref m0], M11)) rfl ?_
  refine rp_int rfl hR13 rfl (fun M16 I17 hR18 e19 f20 => ?_)
  show ml _ _ _ (10, [(0, .ref m0)], [], M16) _
  refine ml_blk 2 (S' := (12, [(0, .ref m0)], [.int 0, .ref m0], M16)) rfl ?_
  refine rp_int rfl hR18 rfl (fun M21 I22 hR23 e24 f25 => ?_)
  show ml _ _ _ (15, [(0, .ref m0)], [], M21) _
  refine ml_blk 2 (S' := (17, [(0, .ref m0)], [.int 0, .ref m0], M21)) rfl ?_
  refine rp_int rfl hR23 rfl (fun M26 I27 hR28 e29 f30 => ?_)
  show ml _ _ _ (20, [(0, .ref m0)], [], M26) _
  refine ml_blk 2 (S' := (22, [(0, .ref m0)], [.int 0, .ref m0], M26)) rfl ?_
  refine rp_int rfl hR28 rfl (fun M31 I32 hR33 e34 f35 => ?_)
  show ml _ _ _ (25, [(0, .ref m0)], [], M31) _
  refine ml_blk 2 (S' := (27, [(0, .ref m0)], [.int (-1), .ref m0], M31)) rfl ?_
  refine rp_int rfl hR33 rfl (fun M36 I37 hR38 e39 f40 => ?_)
  show ml _ _ _ (30, [(0, .ref m0)], [], M36) _
  refine ml_blk 2 (S' := (32, [(0, .ref m0)], [.int 0, .ref m0], M36)) rfl ?_
  refine rp_int rfl hR38 rfl (fun M41 I42 hR43 e44 f45 => ?_)
  show ml _ _ _ (35, [(0, .ref m0)], [], M41) _
  refine ml_blk 2 (S' := (37, [(0, .ref m0)], [.int (-1), .ref m0], M41)) rfl ?_
  refine rp_int rfl hR43 rfl (fun M46 I47 hR48 e49 f50 => ?_)
  show ml _ _ _ (40, [(0, .ref m0)], [], M46) _
  have hN0 : NW f n I47 := nw_0 (fun k hk => by simp only [List.mem_cons, List.not_mem_nil, or_false] at hk; rcases hk with rfl | rfl | rfl | rfl | rfl | rfl; exact ⟨_, (f50 65 (by decide)).trans ((f45 65 (by decide)).trans ((f40 65 (by decide)).trans ((f35 65 (by decide)).trans (e29))))⟩; exact ⟨_, (f50 66 (by decide)).trans ((f45 66 (by decide)).trans ((f40 66 (by decide)).trans (e34)))⟩; exact ⟨_, (f50 67 (by decide)).trans ((f45 67 (by decide)).trans ((f40 67 (by decide)).trans ((f35 67 (by decide)).trans ((f30 67 (by decide)).trans ((f25 67 (by decide)).trans ((f20 67 (by decide)).trans (e14)))))))⟩; exact ⟨_, (f50 68 (by decide)).trans ((f45 68 (by decide)).trans ((f40 68 (by decide)).trans ((f35 68 (by decide)).trans ((f30 68 (by decide)).trans ((f25 68 (by decide)).trans (e19))))))⟩; exact ⟨_, (f50 69 (by decide)).trans ((f45 69 (by decide)).trans ((f40 69 (by decide)).trans ((f35 69 (by decide)).trans ((f30 69 (by decide)).trans (e24)))))⟩; exact ⟨_, e49⟩) ((f50 70 (by decide)).trans ((f45 70 (by decide)).trans (e39))) ((f50 71 (by decide)).trans (e44))
  refine ml_st (S' := (41, [(0, .ref m0)], [.ref m0], M46)) rfl rfl rfl ?_
  have hF51 : FK n f I47 R := ((((((((hF.mono (pIx f15 (by decide)) (fun _ _ => rfl)).mono (pIx f20 (by decide)) (fun _ _ => rfl)).mono (pIx f25 (by decide)) (fun _ _ => rfl)).mono (pIx f30 (by decide)) (fun _ _ => rfl)).mono (pIx f35 (by decide)) (fun _ _ => rfl)).mono (pIx f40 (by decide)) (fun _ _ => rfl)).mono (pIx f45 (by decide)) (fun _ _ => rfl)).mono (pIx f50 (by decide)) (fun _ _ => rfl))
  have hZ52 : SYM S cN I47 R := ((((((((hZ.mono (pIx f15 (by decide)) (fun _ _ => rfl)).mono (pIx f20 (by decide)) (fun _ _ => rfl)).mono (pIx f25 (by decide)) (fun _ _ => rfl)).mono (pIx f30 (by decide)) (fun _ _ => rfl)).mono (pIx f35 (by decide)) (fun _ _ => rfl)).mono (pIx f40 (by decide)) (fun _ _ => rfl)).mono (pIx f45 (by decide)) (fun _ _ => rfl)).mono (pIx f50 (by decide)) (fun _ _ => rfl))
  refine ml_call (a := [.ref m0]) (rest := []) rfl (hR48.okc rfl rfl rfl) rfl rfl (rm_readFile hR48 ((f50 20 (by decide)).trans ((f45 20 (by decide)).trans ((f40 20 (by decide)).trans ((f35 20 (by decide)).trans ((f30 20 (by decide)).trans ((f25 20 (by decide)).trans ((f20 20 (by decide)).trans ((f15 20 (by decide)).trans (hk20))))))))) hF51 hZ52 (hS3) (hC3) (by omega)) (fun v53 M54 h55 => ?_)
  obtain ⟨u61, I56, R57, rfl, hR58, hI59, hV60, z62, w63⟩ := h55
  show ml _ _ _ (44, [(0, .ref m0)], [.int u61], M54) _
  have hfr0 := w63
  refine ml_if (S1 := (75, [], [], M54)) (S2 := (47, [(0, .ref m0)], [], M54)) rfl rfl rfl (fun c_44 => ?_) (fun c_44 => ?_)
  · have c_44 : u61 = 0 := of_decide_eq_true c_44
    refine ml_st (S' := (76, [], [.int 0], M54)) rfl rfl rfl ?_
    exact ml_ret rfl (r_z (Or.inl rfl)) (⟨_, _, _, rfl, hR58, (((((((((eqI.rf.put f15 (by decide)).put f20 (by decide)).put f25 (by decide)).put f30 (by decide)).put f35 (by decide)).put f40 (by decide)).put f45 (by decide)).put f50 (by decide)).tr hI59 (by decide)), (eqR.rf.tr hV60 (by decide)), Or.inl rfl, Or.inl rfl⟩)
  · have c_44 : ¬ (u61 = 0) := of_decide_eq_false c_44
    obtain ⟨S, cN, cp, mj, hA, fA, mA, aA, ⟨sa, sl, ch, he, nx, hY9, hH9⟩, hpen, hFO, h51, h52, h53, h54, h55, h56, h57⟩ := hfr0.resolve_left c_44
    obtain ⟨pa, py, hP9⟩ := pk_of hpen hFO.1 h51 h52 h53
    obtain ⟨hcp, ⟨hh0, hh1, hh2⟩, hmb1, hmb2, eE, hatE⟩ := hFO
    refine ml_st (S' := (48, [(0, .ref m0)], [.ref m0], M54)) rfl rfl rfl ?_
    have hF64 : FK n f I56 R57 := (hF51.mono (cIx hI59 (by decide)) (cRx hV60 (by decide)))
    refine ml_call (a := [.ref m0]) (rest := []) rfl (hR58.okc rfl rfl rfl) rfl rfl (rm_checkPool hR58 ((hI59 9 (by decide)).trans ((f50 9 (by decide)).trans ((f45 9 (by decide)).trans ((f40 9 (by decide)).trans ((f35 9 (by decide)).trans ((f30 9 (by decide)).trans ((f25 9 (by decide)).trans ((f20 9 (by decide)).trans ((f15 9 (by decide)).trans (hk9)))))))))) hF64 hY9 hP9 (by omega)) (fun v65 M66 h67 => ?_)
    obtain ⟨u73, I68, R69, rfl, hR70, hI71, hV72, z74, w75⟩ := h67
    show ml _ _ _ (51, [(0, .ref m0)], [.int u73], M66) _
    refine ml_if (S1 := (75, [], [], M66)) (S2 := (54, [(0, .ref m0)], [], M66)) rfl rfl rfl (fun c_51 => ?_) (fun c_51 => ?_)
    · have c_51 : u73 = 0 := of_decide_eq_true c_51
      refine ml_st (S' := (76, [], [.int 0], M66)) rfl rfl rfl ?_
      exact ml_ret rfl (r_z (Or.inl rfl)) (⟨_, _, _, rfl, hR70, ((((((((((eqI.rf.put f15 (by decide)).put f20 (by decide)).put f25 (by decide)).put f30 (by decide)).put f35 (by decide)).put f40 (by decide)).put f45 (by decide)).put f50 (by decide)).tr hI59 (by decide)).tr hI71 (by decide)), ((eqR.rf.tr hV60 (by decide)).tr hV72 (by decide)), Or.inl rfl, Or.inl rfl⟩)
    · have c_51 : ¬ (u73 = 0) := of_decide_eq_false c_51
      have hE9 := w75.resolve_left c_51
      refine ml_st (S' := (55, [(0, .ref m0)], [.ref m0], M66)) rfl rfl rfl ?_
      have hF76 : FK n f I68 R69 := (hF64.mono (cIx hI71 (by decide)) (cRx hV72 (by decide)))
      have hY77 : SK S cN sa sl ch I68 R69 := (hY9.mono (cIx hI71 (by decide)) (cRx hV72 (by decide)))
      have hP78 : PK n f S cp mj pa py I68 R69 := (hP9.mono (cIx hI71 (by decide)) (cRx hV72 (by decide)))
      refine ml_call (a := [.ref m0]) (rest := []) rfl (hR70.okc rfl rfl rfl) rfl rfl (rm_checkClass hR70 ((hI71 54 (by decide)).trans (h54)) ((hI71 11 (by decide)).trans ((hI59 11 (by decide)).trans ((f50 11 (by decide)).trans ((f45 11 (by decide)).trans ((f40 11 (by decide)).trans ((f35 11 (by decide)).trans ((f30 11 (by decide)).trans ((f25 11 (by decide)).trans ((f20 11 (by decide)).trans ((f15 11 (by decide)).trans (hk11))))))))))) hF76 hY77 hP78 hE9 (by omega) (by omega) (by omega)) (fun v79 M80 h81 => ?_)
      obtain ⟨u87, I82, R83, rfl, hR84, hI85, hV86, z88, w89⟩ := h81
      show ml _ _ _ (58, [(0, .ref m0)], [.int u87], M80) _
      refine ml_if (S1 := (75, [], [], M80)) (S2 := (61, [(0, .ref m0)], [], M80)) rfl rfl rfl (fun c_58 => ?_) (fun c_58 => ?_)
      · have c_58 : u87 = 0 := of_decide_eq_true c_58
        refine ml_st (S' := (76, [], [.int 0], M80)) rfl rfl rfl ?_
        exact ml_ret rfl (r_z (Or.inl rfl)) (⟨_, _, _, rfl, hR84, (((((((((((eqI.rf.put f15 (by decide)).put f20 (by decide)).put f25 (by decide)).put f30 (by decide)).put f35 (by decide)).put f40 (by decide)).put f45 (by decide)).put f50 (by decide)).tr hI59 (by decide)).tr hI71 (by decide)).tr hI85 (by decide)), (((eqR.rf.tr hV60 (by decide)).tr hV72 (by decide)).tr hV86 (by decide)), Or.inl rfl, Or.inl rfl⟩)
      · have c_58 : ¬ (u87 = 0) := of_decide_eq_false c_58
        obtain ⟨⟨nf, hnf⟩, ni, hni⟩ := w89.resolve_left c_58
        refine ml_st (S' := (62, [(0, .ref m0)], [.ref m0], M80)) rfl rfl rfl ?_
        have hF90 : FK n f I82 R83 := (hF76.mono (cIx hI85 (by decide)) (cRx hV86 (by decide)))
        have hY91 : SK S cN sa sl ch I82 R83 := (hY77.mono (cIx hI85 (by decide)) (cRx hV86 (by decide)))
        have hP92 : PK n f S cp mj pa py I82 R83 := (hP78.mono (cIx hI85 (by decide)) (cRx hV86 (by decide)))
        have hK93 : KW I82 R83 := (((((((((((hK.mono (pIx f15 (by decide)) (fun _ _ => rfl)).mono (pIx f20 (by decide)) (fun _ _ => rfl)).mono (pIx f25 (by decide)) (fun _ _ => rfl)).mono (pIx f30 (by decide)) (fun _ _ => rfl)).mono (pIx f35 (by decide)) (fun _ _ => rfl)).mono (pIx f40 (by decide)) (fun _ _ => rfl)).mono (pIx f45 (by decide)) (fun _ _ => rfl)).mono (pIx f50 (by decide)) (fun _ _ => rfl)).mono (cIx hI59 (by decide)) (cRx hV60 (by decide))).mono (cIx hI71 (by decide)) (cRx hV72 (by decide))).mono (cIx hI85 (by decide)) (cRx hV86 (by decide)))
        refine ml_call (a := [.ref m0]) (rest := []) rfl (hR84.okc rfl rfl rfl) rfl rfl (rm_checkFields hR84 ((hI85 55 (by decide)).trans ((hI71 55 (by decide)).trans (h55))) ((hI85 25 (by decide)).trans ((hI71 25 (by decide)).trans ((hI59 25 (by decide)).trans ((f50 25 (by decide)).trans ((f45 25 (by decide)).trans ((f40 25 (by decide)).trans ((f35 25 (by decide)).trans ((f30 25 (by decide)).trans ((f25 25 (by decide)).trans ((f20 25 (by decide)).trans ((f15 25 (by decide)).trans (hk25)))))))))))) (hnf) hF90 hY91 hP92 hK93 (hmb1) (by omega)) (fun v94 M95 h96 => ?_)
        obtain ⟨u102, I97, R98, rfl, hR99, hI100, hV101, z103, w104⟩ := h96
        show ml _ _ _ (65, [(0, .ref m0)], [.int u102], M95) _
        refine ml_if (S1 := (75, [], [], M95)) (S2 := (68, [(0, .ref m0)], [], M95)) rfl rfl rfl (fun c_65 => ?_) (fun c_65 => ?_)
        · have c_65 : u102 = 0 := of_decide_eq_true c_65
          refine ml_st (S' := (76, [], [.int 0], M95)) rfl rfl rfl ?_
          exact ml_ret rfl (r_z (Or.inl rfl)) (⟨_, _, _, rfl, hR99, ((((((((((((eqI.rf.put f15 (by decide)).put f20 (by decide)).put f25 (by decide)).put f30 (by decide)).put f35 (by decide)).put f40 (by decide)).put f45 (by decide)).put f50 (by decide)).tr hI59 (by decide)).tr hI71 (by decide)).tr hI85 (by decide)).tr hI100 (by decide)), ((((eqR.rf.tr hV60 (by decide)).tr hV72 (by decide)).tr hV86 (by decide)).tr hV101 (by decide)), Or.inl rfl, Or.inl rfl⟩)
        · have c_65 : ¬ (u102 = 0) := of_decide_eq_false c_65
          obtain ⟨kf, hkf, hkf2, hfk⟩ := w104.resolve_left c_65
          refine ml_st (S' := (69, [(0, .ref m0)], [.ref m0], M95)) rfl rfl rfl ?_
          have hF105 : FK n f I97 R98 := (hF90.mono (cIx hI100 (by decide)) (cRx hV101 (by decide)))
          have hY106 : SK S cN sa sl ch I97 R98 := (hY91.mono (cIx hI100 (by decide)) (cRx hV101 (by decide)))
          have hP107 : PK n f S cp mj pa py I97 R98 := (hP92.mono (cIx hI100 (by decide)) (cRx hV101 (by decide)))
          have hK108 : KW I97 R98 := (hK93.mono (cIx hI100 (by decide)) (cRx hV101 (by decide)))
          refine ml_call (a := [.ref m0]) (rest := []) rfl (hR99.okc rfl rfl rfl) rfl rfl (rm_checkMethods hR99 ((hI100 56 (by decide)).trans ((hI85 56 (by decide)).trans ((hI71 56 (by decide)).trans (h56)))) ((hI100 26 (by decide)).trans ((hI85 26 (by decide)).trans ((hI71 26 (by decide)).trans ((hI59 26 (by decide)).trans ((f50 26 (by decide)).trans ((f45 26 (by decide)).trans ((f40 26 (by decide)).trans ((f35 26 (by decide)).trans ((f30 26 (by decide)).trans ((f25 26 (by decide)).trans ((f20 26 (by decide)).trans ((f15 26 (by decide)).trans (hk26))))))))))))) ((hI100 58 (by decide)).trans (hnf)) ((hI100 9 (by decide)).trans ((hI85 9 (by decide)).trans ((hI71 9 (by decide)).trans ((hI59 9 (by decide)).trans ((f50 9 (by decide)).trans ((f45 9 (by decide)).trans ((f40 9 (by decide)).trans ((f35 9 (by decide)).trans ((f30 9 (by decide)).trans ((f25 9 (by decide)).trans ((f20 9 (by decide)).trans ((f15 9 (by decide)).trans (hk9))))))))))))) ((hI100 10 (by decide)).trans ((hI85 10 (by decide)).trans ((hI71 10 (by decide)).trans ((hI59 10 (by decide)).trans ((f50 10 (by decide)).trans ((f45 10 (by decide)).trans ((f40 10 (by decide)).trans ((f35 10 (by decide)).trans ((f30 10 (by decide)).trans ((f25 10 (by decide)).trans ((f20 10 (by decide)).trans ((f15 10 (by decide)).trans (hk10))))))))))))) hF105 hY106 hP107 hK108 (hmb2) (by omega)) (fun v109 M110 h111 => ?_)
          obtain ⟨u117, I112, R113, rfl, hR114, hI115, hV116, z118, w119⟩ := h111
          show ml _ _ _ (72, [(0, .ref m0)], [.int u117], M110) _
          refine ml_if (S1 := (77, [(0, .ref m0)], [], M110)) (S2 := (75, [], [], M110)) rfl rfl rfl (fun c_72 => ?_) (fun c_72 => ?_)
          · have c_72 : ¬ u117 = 0 := of_decide_eq_true c_72
            obtain ⟨km, hkm, hkm2, hmk⟩ := w119.resolve_left c_72
            refine ml_blk 2 (S' := (79, [(0, .ref m0)], [.ref m0, .ref m0], M110)) rfl ?_
            refine rg_int (S' := (82, [(0, .ref m0)], [.int aA, .ref m0], M110)) rfl hR114 rfl ((hI115 57 (by decide)).trans ((hI100 57 (by decide)).trans ((hI85 57 (by decide)).trans ((hI71 57 (by decide)).trans (h57))))) rfl ?_
            refine ml_blk 2 (S' := (84, [(0, .ref m0)], [.int 0, .int 4, .int aA, .ref m0], M110)) rfl ?_
            have hF120 : FK n f I112 R113 := (hF105.mono (cIx hI115 (by decide)) (cRx hV116 (by decide)))
            have hY121 : SK S cN sa sl ch I112 R113 := (hY106.mono (cIx hI115 (by decide)) (cRx hV116 (by decide)))
            have hP122 : PK n f S cp mj pa py I112 R113 := (hP107.mono (cIx hI115 (by decide)) (cRx hV116 (by decide)))
            have hK123 : KW I112 R113 := (hK108.mono (cIx hI115 (by decide)) (cRx hV116 (by decide)))
            refine ml_call (a := [.ref m0, .int aA, .int 4, .int 0]) (rest := []) rfl (hR114.okc rfl rfl rfl) rfl rfl (rm_checkAttributes4 hR114 ((hI115 58 (by decide)).trans ((hI100 58 (by decide)).trans (hnf))) hF120 hY121 hP122 hK123 (rfl) (hatE) ((((((hN0.fr (cIx hI59 (by decide))).fr (cIx hI71 (by decide))).fr (cIx hI85 (by decide))).fr (cIx hI100 (by decide))).fr (cIx hI115 (by decide)))) (by omega)) (fun v124 M125 h126 => ?_)
            obtain ⟨u132, I127, R128, rfl, hR129, hI130, hV131, w133⟩ := h126
            show ml _ _ _ (87, [(0, .ref m0)], [.int u132], M125) _
            obtain ⟨-, hN9⟩ := w133
            refine ml_if (S1 := (92, [(0, .ref m0)], [], M125)) (S2 := (90, [(0, .ref m0)], [], M125)) rfl rfl rfl (fun c_87 => ?_) (fun c_87 => ?_)
            · have c_87 : 0 ≤ u132 := of_decide_eq_true c_87
              have hN8 := hN9
              obtain ⟨hNk, nb, nbn, hnb, hnbn, hnc, hnd⟩ := hN8
              refine ml_st (S' := (93, [(0, .ref m0)], [.int 1], M125)) rfl rfl rfl ?_
              refine ml_st (S' := (94, [(0, .ref m0), (1, .int 1)], [], M125)) rfl rfl rfl ?_
              have L_94 : ∀ (n_94 : Nat) (i94_1 : Int32), (2147483648 - i94_1.toInt).toNat ≤ n_94 → 1 ≤ i94_1.toInt → ml (mT g) d (mb_190 g).2 (94, [(0, .ref m0), (1, .int i94_1)], [], M125) (fun v M' => ∃ (x : Int32) (I' : rI) (R' : rR), v = some (.int x) ∧ RS g m0 q z I' R' M' ∧ eqI [3, 8, 20, 25, 26, 47, 48, 50, 51, 52, 53, 54, 55, 56, 57, 58, 59, 60, 61, 65, 66, 67, 68, 69, 70, 71, 72] I I' ∧ eqR [1, 2, 4, 5, 6, 7, 21, 22, 27, 28, 29, 30, 31, 32, 33, 34, 35, 36, 37, 38, 39, 40, 41, 42, 43, 44, 45, 46] R R' ∧ (x = 0 ∨ x = 1) ∧ (x = 0 ∨ GD n f I' R')) := by
                intro n_94
                induction n_94 with
                | zero => intro i94_1 hn; exact (loop_zero hn).elim
                | succ n_94 ih_94 =>
                  intro i94_1 hn_94 hi_94
                  refine ml_blk 2 (S' := (96, [(0, .ref m0), (1, .int i94_1)], [.ref m0, .int i94_1], M125)) rfl ?_
                  refine rg_int (S' := (99, [(0, .ref m0), (1, .int i94_1)], [.int cp, .int i94_1], M125)) rfl hR129 rfl ((hI130 52 (by decide)).trans ((hI115 52 (by decide)).trans ((hI100 52 (by decide)).trans ((hI85 52 (by decide)).trans ((hI71 52 (by decide)).trans (h52)))))) rfl ?_
                  refine ml_if2 (S1 := (157, [(0, .ref m0), (1, .int i94_1)], [], M125)) (S2 := (102, [(0, .ref m0), (1, .int i94_1)], [], M125)) rfl rfl rfl (fun c_99 => ?_) (fun c_99 => ?_)
                  · have c_99 : cp ≤ i94_1 := of_decide_eq_true c_99
                    refine ml_st (S' := (158, [(0, .ref m0), (1, .int i94_1)], [.int 1], M125)) rfl rfl rfl ?_
                    have hF134 : FK n f I127 R128 := (hF120.mono (cIx hI130 (by decide)) (cRx hV131 (by decide)))
                    have hY135 : SK S cN sa sl ch I127 R128 := (hY121.mono (cIx hI130 (by decide)) (cRx hV131 (by decide)))
                    have hP136 : PK n f S cp mj pa py I127 R128 := (hP122.mono (cIx hI130 (by decide)) (cRx hV131 (by decide)))
                    exact ml_ret rfl (r_z (Or.inr rfl)) (⟨_, _, _, rfl, hR129, ((((((((((((((eqI.rf.put f15 (by decide)).put f20 (by decide)).put f25 (by decide)).put f30 (by decide)).put f35 (by decide)).put f40 (by decide)).put f45 (by decide)).put f50 (by decide)).tr hI59 (by decide)).tr hI71 (by decide)).tr hI85 (by decide)).tr hI100 (by decide)).tr hI115 (by decide)).tr hI130 (by decide)), ((((((eqR.rf.tr hV60 (by decide)).tr hV72 (by decide)).tr hV86 (by decide)).tr hV101 (by decide)).tr hV116 (by decide)).tr hV131 (by decide)), Or.inr rfl, Or.inr ⟨S, cN, sa, sl, ch, cp, mj, pa, py, hA, fA, mA, aA, nf, ni, kf, km, hF134, hY135, hP136, hE9, ⟨hcp, ⟨hh0, hh1, hh2⟩, hmb1, hmb2, eE, hatE⟩, (hI130 54 (by decide)).trans ((hI115 54 (by decide)).trans ((hI100 54 (by decide)).trans ((hI85 54 (by decide)).trans ((hI71 54 (by decide)).trans (h54))))), (hI130 58 (by decide)).trans ((hI115 58 (by decide)).trans ((hI100 58 (by decide)).trans (hnf))), (hI130 61 (by decide)).trans ((hI115 61 (by decide)).trans ((hI100 61 (by decide)).trans (hni))), hkf, (hI130 25 (by decide)).trans ((hI115 25 (by decide)).trans (hkf2)), ((hfk.eq hV116 (by decide)).eq hV131 (by decide)), hkm, (hI130 26 (by decide)).trans (hkm2), (hmk.eq hV131), hN9⟩⟩)
                  · have c_99 : ¬ (cp ≤ i94_1) := of_decide_eq_false c_99
                    refine ml_blk 2 (S' := (104, [(0, .ref m0), (1, .int i94_1)], [.int i94_1, .ref m0], M125)) rfl ?_
                    have hF137 : FK n f I127 R128 := (hF120.mono (cIx hI130 (by decide)) (cRx hV131 (by decide)))
                    have hP138 : PK n f S cp mj pa py I127 R128 := (hP122.mono (cIx hI130 (by decide)) (cRx hV131 (by decide)))
                    refine ml_call (a := [.ref m0, .int i94_1]) (rest := []) rfl (hR129.okc rfl rfl rfl) rfl rfl (rm_tag hR129 hF137 hP138 (by omega)) (fun v139 M140 h141 => ?_)
                    obtain ⟨rfl, h141⟩ := h141
                    rw [h141]
                    show ml _ _ _ (107, [(0, .ref m0), (1, .int i94_1)], [.int (tgf f cp pa i94_1)], M125) _
                    refine ml_st (S' := (108, [(2, .int (tgf f cp pa i94_1)), (0, .ref m0), (1, .int i94_1)], [], M125)) rfl rfl rfl ?_
                    refine ml_blk 2 (S' := (111, [(2, .int (tgf f cp pa i94_1)), (0, .ref m0), (1, .int i94_1)], [.int 17, .int (tgf f cp pa i94_1)], M125)) rfl ?_
                    have J_120 : (tgf f cp pa i94_1 = 17 ∨ tgf f cp pa i94_1 = 18) → ml (mT g) d (mb_190 g).2 (120, [(0, .ref m0), (1, .int i94_1)], [], M125) (fun v M' => ∃ (x : Int32) (I' : rI) (R' : rR), v = some (.int x) ∧ RS g m0 q z I' R' M' ∧ eqI [3, 8, 20, 25, 26, 47, 48, 50, 51, 52, 53, 54, 55, 56, 57, 58, 59, 60, 61, 65, 66, 67, 68, 69, 70, 71, 72] I I' ∧ eqR [1, 2, 4, 5, 6, 7, 21, 22, 27, 28, 29, 30, 31, 32, 33, 34, 35, 36, 37, 38, 39, 40, 41, 42, 43, 44, 45, 46] R R' ∧ (x = 0 ∨ x = 1) ∧ (x = 0 ∨ GD n f I' R')) := by
                      intro hj_120
                      have hz17 : tgf f cp pa i94_1 ≠ 0 := (fun e => by rcases hj_120 with h | h <;> rw [h] at e <;> exact absurd e (by decide))
                      have h17 := hP138.tg (rfl : tgf f cp pa i94_1 = _) hz17
                      have q17 : (pa (Int32.toNatClampNeg i94_1)).toInt + 5 ≤ n := by have q := h17.2.2.2.2; rw [show esz _ = 5 from esz_17 hj_120] at q; exact q
                      refine ml_blk 3 (S' := (123, [(0, .ref m0), (1, .int i94_1)], [.int 1, .int i94_1, .ref m0], M125)) rfl ?_
                      refine ml_call (a := [.ref m0, .int i94_1, .int 1]) (rest := []) rfl (hR129.okc rfl rfl rfl) rfl rfl (rm_index hR129 hF137 hP138 (h17.1) (h17.2.1) (h17.2.2.1) (by decide) (by have : (1 : Int32).toInt = 1 := rfl; omega) (by omega)) (fun v142 M143 h144 => ?_)
                      obtain ⟨rfl, h144⟩ := h144
                      rw [h144]
                      show ml _ _ _ (126, [(0, .ref m0), (1, .int i94_1)], [.int (ixf f pa i94_1 1)], M125) _
                      refine ml_st (S' := (127, [(0, .ref m0), (1, .int i94_1)], [.ref m0, .int (ixf f pa i94_1 1)], M125)) rfl rfl rfl ?_
                      refine rg_int (S' := (130, [(0, .ref m0), (1, .int i94_1)], [.int nbn, .int (ixf f pa i94_1 1)], M125)) rfl hR129 rfl (hnbn) rfl ?_
                      refine ml_if2 (S1 := (151, [(0, .ref m0), (1, .int i94_1)], [], M125)) (S2 := (133, [(0, .ref m0), (1, .int i94_1)], [], M125)) rfl rfl rfl (fun c_130 => ?_) (fun c_130 => ?_)
                      · have c_130 : (ixf f pa i94_1 1) < nbn := of_decide_eq_true c_130
                        refine ml_st (S' := (154, [(1, .int (i94_1 + 1)), (0, .ref m0)], [], M125)) rfl rfl rfl ?_
                        refine ml_st (S' := (94, [(0, .ref m0), (1, .int (i94_1 + 1))], [], M125)) rfl rfl rfl ?_
                        exact ih_94 (i94_1 + 1) (loop_inc (Int32.not_le.mp c_99) hn_94) (by rw [inc_lt (Int32.not_le.mp c_99)]; omega)
                      · have c_130 : ¬ ((ixf f pa i94_1 1) < nbn) := of_decide_eq_false c_130
                        refine ml_blk 3 (S' := (137, [(0, .ref m0), (1, .int i94_1)], [.ref m0, .int 40, .ref m0], M125)) rfl ?_
                        refine rg_ref (S' := (140, [(0, .ref m0), (1, .int i94_1)], [.ref (q 21), .int 40, .ref m0], M125)) rfl hR129 rfl rfl ?_
                        refine ml_st (S' := (141, [(0, .ref m0), (1, .int i94_1)], [.ref m0, .ref (q 21), .int 40, .ref m0], M125)) rfl rfl rfl ?_
                        refine rg_int (S' := (144, [(0, .ref m0), (1, .int i94_1)], [.int 0, .ref (q 21), .int 40, .ref m0], M125)) rfl hR129 rfl ((hI130 51 (by decide)).trans ((hI115 51 (by decide)).trans ((hI100 51 (by decide)).trans ((hI85 51 (by decide)).trans ((hI71 51 (by decide)).trans (h51)))))) rfl ?_
                        refine ml_blk 2 (S' := (146, [(0, .ref m0), (1, .int i94_1)], [.int (0 + i94_1), .ref (q 21), .int 40, .ref m0], M125)) rfl ?_
                        refine ra_ld (k := 21) (S' := (147, [(0, .ref m0), (1, .int i94_1)], [.int (pa (Int32.toNatClampNeg i94_1)), .int 40, .ref m0], M125)) rfl hR129 rfl ((hP138.e h17.1 h17.2.1).2.1) ((hP138.e h17.1 h17.2.1).1) rfl ?_
                        refine ml_call (a := [.ref m0, .int 40, .int (pa (Int32.toNatClampNeg i94_1))]) (rest := []) rfl (hR129.okc rfl rfl rfl) rfl rfl (rm_wrong hR129 (by omega)) (fun v145 M146 h147 => ?_)
                        obtain ⟨u153, I148, R149, rfl, hR150, hI151, hV152, z154, w155⟩ := h147
                        show ml _ _ _ (150, [(0, .ref m0), (1, .int i94_1)], [.int u153], M146) _
                        exact ml_ret rfl (r_z (z154)) (⟨_, _, _, rfl, hR150, (((((((((((((((eqI.rf.put f15 (by decide)).put f20 (by decide)).put f25 (by decide)).put f30 (by decide)).put f35 (by decide)).put f40 (by decide)).put f45 (by decide)).put f50 (by decide)).tr hI59 (by decide)).tr hI71 (by decide)).tr hI85 (by decide)).tr hI100 (by decide)).tr hI115 (by decide)).tr hI130 (by decide)).tr hI151 (by decide)), (((((((eqR.rf.tr hV60 (by decide)).tr hV72 (by decide)).tr hV86 (by decide)).tr hV101 (by decide)).tr hV116 (by decide)).tr hV131 (by decide)).tr hV152 (by decide)), z154, Or.inl w155⟩)
                    refine ml_if2 (S1 := (120, [(0, .ref m0), (1, .int i94_1)], [], M125)) (S2 := (114, [(2, .int (tgf f cp pa i94_1)), (0, .ref m0), (1, .int i94_1)], [], M125)) rfl rfl rfl (fun c_111 => ?_) (fun c_111 => ?_)
                    · have c_111 : (tgf f cp pa i94_1) = 17 := of_decide_eq_true c_111
                      exact J_120  (Or.inl c_111)
                    · have c_111 : ¬ ((tgf f cp pa i94_1) = 17) := of_decide_eq_false c_111
                      refine ml_blk 2 (S' := (117, [(2, .int (tgf f cp pa i94_1)), (0, .ref m0), (1, .int i94_1)], [.int 18, .int (tgf f cp pa i94_1)], M125)) rfl ?_
                      refine ml_if2 (S1 := (151, [(0, .ref m0), (1, .int i94_1)], [], M125)) (S2 := (120, [(0, .ref m0), (1, .int i94_1)], [], M125)) rfl rfl rfl (fun c_117 => ?_) (fun c_117 => ?_)
                      · have c_117 : ¬ (tgf f cp pa i94_1) = 18 := of_decide_eq_true c_117
                        refine ml_st (S' := (154, [(1, .int (i94_1 + 1)), (0, .ref m0)], [], M125)) rfl rfl rfl ?_
                        refine ml_st (S' := (94, [(0, .ref m0), (1, .int (i94_1 + 1))], [], M125)) rfl rfl rfl ?_
                        exact ih_94 (i94_1 + 1) (loop_inc (Int32.not_le.mp c_99) hn_94) (by rw [inc_lt (Int32.not_le.mp c_99)]; omega)
                      · have c_117 : ¬ (¬ (tgf f cp pa i94_1) = 18) := of_decide_eq_false c_117
                        exact J_120  (Or.inr (Decidable.not_not.mp c_117))
              exact L_94 _ 1 (Nat.le_refl _) (by decide)
            · have c_87 : ¬ (0 ≤ u132) := of_decide_eq_false c_87
              refine ml_st (S' := (91, [(0, .ref m0)], [.int 0], M125)) rfl rfl rfl ?_
              exact ml_ret rfl (r_z (Or.inl rfl)) (⟨_, _, _, rfl, hR129, ((((((((((((((eqI.rf.put f15 (by decide)).put f20 (by decide)).put f25 (by decide)).put f30 (by decide)).put f35 (by decide)).put f40 (by decide)).put f45 (by decide)).put f50 (by decide)).tr hI59 (by decide)).tr hI71 (by decide)).tr hI85 (by decide)).tr hI100 (by decide)).tr hI115 (by decide)).tr hI130 (by decide)), ((((((eqR.rf.tr hV60 (by decide)).tr hV72 (by decide)).tr hV86 (by decide)).tr hV101 (by decide)).tr hV116 (by decide)).tr hV131 (by decide)), Or.inl rfl, Or.inl rfl⟩)
          · have c_72 : ¬ (¬ u117 = 0) := of_decide_eq_false c_72
            refine ml_st (S' := (76, [], [.int 0], M110)) rfl rfl rfl ?_
            exact ml_ret rfl (r_z (Or.inl rfl)) (⟨_, _, _, rfl, hR114, (((((((((((((eqI.rf.put f15 (by decide)).put f20 (by decide)).put f25 (by decide)).put f30 (by decide)).put f35 (by decide)).put f40 (by decide)).put f45 (by decide)).put f50 (by decide)).tr hI59 (by decide)).tr hI71 (by decide)).tr hI85 (by decide)).tr hI100 (by decide)).tr hI115 (by decide)), (((((eqR.rf.tr hV60 (by decide)).tr hV72 (by decide)).tr hV86 (by decide)).tr hV101 (by decide)).tr hV116 (by decide)), Or.inl rfl, Or.inl rfl⟩)
