/-! the reference: the file is read (laid by wip/p2/c64.py) -/
set_option maxHeartbeats 2000000 in
theorem rm_readFile {g : xe_G}  {m0 : Nat} {q : Nat → Nat} {z : Nat × Nat} {I : rI} {R : rR} {M : mi_H} {n : Nat} {f : Nat → Int32} {S cN : Nat}  (hR : RS g m0 q z I R M) (hk20 : I 20 = some 0) (hF : FK n f I R) (hZ : SYM S cN I R) (hS3 : S ≤ 3) (hC3 : cN ≤ 30) {d : Nat} (hd : 6 ≤ d) : mt (mT g) d 237 [.ref m0] M (fun v M' => ∃ (x : Int32) (I' : rI) (R' : rR), v = some (.int x) ∧ RS g m0 q z I' R' M' ∧ eqI [3, 8, 20, 47, 48, 50, 51, 52, 53, 54, 55, 56, 57] I I' ∧ eqR [1, 2, 4, 5, 6, 7, 21, 22] R R' ∧ (x = 0 ∨ x = 1) ∧ (x = 0 ∨ FR f n I' R')) := by
  obtain ⟨d, rfl⟩ : ∃ e, d = e + 1 := ⟨d - 1, by omega⟩
  refine mt_in (b := mb_237 g) rfl rfl ?_
  show ml (mT g) d (mb_237 g).2 (0, [(0, .ref m0)], [], M) _
  have hn := hF.1
  have l2 : (2 : Int64).toInt = 2 := rfl
  have l4 : (4 : Int64).toInt = 4 := rfl
  refine ml_blk 2 (S' := (2, [(0, .ref m0)], [.int 0, .ref m0], M)) rfl ?_
  refine rp_int rfl hR rfl (fun M11 I12 hR13 e14 f15 => ?_)
  show ml _ _ _ (5, [(0, .ref m0)], [], M11) _
  refine ml_blk 2 (S' := (9, [(0, .ref m0)], [.long 4, .ref m0], M11)) rfl ?_
  have hF16 : FK n f I12 R := (hF.mono (pIx f15 (by decide)) (fun _ _ => rfl))
  refine ml_call (a := [.ref m0, .long 4]) (rest := []) rfl (hR13.okc rfl rfl rfl) rfl rfl (rm_item hR13 (e14) hF16 (by decide) (by have : (0 : Int32).toInt = 0 := rfl; omega) (by decide) (by decide) (by omega)) (fun v17 M18 h19 => ?_)
  obtain ⟨u25, I20, R21, rfl, hR22, hI23, hV24, z26, w27⟩ := h19
  show ml _ _ _ (12, [(0, .ref m0)], [.int u25], M18) _
  refine ml_if (S1 := (17, [(0, .ref m0)], [], M18)) (S2 := (15, [(0, .ref m0)], [], M18)) rfl rfl rfl (fun c_12 => ?_) (fun c_12 => ?_)
  · have c_12 : ¬ u25 = 0 := of_decide_eq_true c_12
    have h4n := w27.resolve_left c_12
    have z0 : (0 : Int32).toInt = 0 := rfl
    have i4 : (4 : Int32).toInt = 4 := rfl
    have i6 : (6 : Int32).toInt = 6 := rfl
    have i8 : (8 : Int32).toInt = 8 := rfl
    have i10 : (10 : Int32).toInt = 10 := rfl
    refine ml_blk 2 (S' := (19, [(0, .ref m0)], [.int 0, .ref m0], M18)) rfl ?_
    have hF28 : FK n f I20 R21 := (hF16.mono (cIx hI23 (by decide)) (cRx hV24 (by decide)))
    refine ml_call (a := [.ref m0, .int 0]) (rest := []) rfl (hR22.okc rfl rfl rfl) rfl rfl (rm_u4 hR22 hF28 (by decide) (by omega) (by omega)) (fun v29 M30 h31 => ?_)
    obtain ⟨rfl, h31⟩ := h31
    rw [h31]
    show ml _ _ _ (22, [(0, .ref m0)], [.long (f4 f 0)], M18) _
    refine ml_blk 2 (S' := (26, [(0, .ref m0)], [.int (lg_cmp (f4 f 0) 3405691582)], M18)) rfl ?_
    refine ml_if (S1 := (36, [(0, .ref m0)], [], M18)) (S2 := (29, [(0, .ref m0)], [], M18)) rfl rfl rfl (fun c_26 => ?_) (fun c_26 => ?_)
    · have c_26 : (lg_cmp (f4 f 0) 3405691582) = 0 := of_decide_eq_true c_26
      refine ml_blk 2 (S' := (38, [(0, .ref m0)], [.int 4, .ref m0], M18)) rfl ?_
      refine rp_int rfl hR22 rfl (fun M32 I33 hR34 e35 f36 => ?_)
      show ml _ _ _ (41, [(0, .ref m0)], [], M32) _
      refine ml_blk 2 (S' := (45, [(0, .ref m0)], [.long 2, .ref m0], M32)) rfl ?_
      have hF37 : FK n f I33 R21 := (hF28.mono (pIx f36 (by decide)) (fun _ _ => rfl))
      refine ml_call (a := [.ref m0, .long 2]) (rest := []) rfl (hR34.okc rfl rfl rfl) rfl rfl (rm_item hR34 (e35) hF37 (by omega) (by omega) (by decide) (by decide) (by omega)) (fun v38 M39 h40 => ?_)
      obtain ⟨u46, I41, R42, rfl, hR43, hI44, hV45, z47, w48⟩ := h40
      show ml _ _ _ (48, [(0, .ref m0)], [.int u46], M39) _
      refine ml_if (S1 := (53, [(0, .ref m0)], [], M39)) (S2 := (51, [(0, .ref m0)], [], M39)) rfl rfl rfl (fun c_48 => ?_) (fun c_48 => ?_)
      · have c_48 : ¬ u46 = 0 := of_decide_eq_true c_48
        have h6n := w48.resolve_left c_48
        refine ml_blk 2 (S' := (56, [(0, .ref m0)], [.int 6, .ref m0], M39)) rfl ?_
        refine rp_int rfl hR43 rfl (fun M49 I50 hR51 e52 f53 => ?_)
        show ml _ _ _ (59, [(0, .ref m0)], [], M49) _
        refine ml_blk 2 (S' := (63, [(0, .ref m0)], [.long 2, .ref m0], M49)) rfl ?_
        have hF54 : FK n f I50 R42 := ((hF37.mono (cIx hI44 (by decide)) (cRx hV45 (by decide))).mono (pIx f53 (by decide)) (fun _ _ => rfl))
        refine ml_call (a := [.ref m0, .long 2]) (rest := []) rfl (hR51.okc rfl rfl rfl) rfl rfl (rm_item hR51 (e52) hF54 (by omega) (by omega) (by decide) (by decide) (by omega)) (fun v55 M56 h57 => ?_)
        obtain ⟨u63, I58, R59, rfl, hR60, hI61, hV62, z64, w65⟩ := h57
        show ml _ _ _ (66, [(0, .ref m0)], [.int u63], M56) _
        refine ml_if (S1 := (71, [(0, .ref m0)], [], M56)) (S2 := (69, [(0, .ref m0)], [], M56)) rfl rfl rfl (fun c_66 => ?_) (fun c_66 => ?_)
        · have c_66 : ¬ u63 = 0 := of_decide_eq_true c_66
          have h8n := w65.resolve_left c_66
          refine ml_blk 3 (S' := (75, [(0, .ref m0)], [.int 6, .ref m0, .ref m0], M56)) rfl ?_
          have hF66 : FK n f I58 R59 := (hF54.mono (cIx hI61 (by decide)) (cRx hV62 (by decide)))
          refine ml_call (a := [.ref m0, .int 6]) (rest := [.ref m0]) rfl (hR60.okc rfl rfl rfl) rfl rfl (rm_u2 hR60 hF66 (by omega) (by omega) (by omega)) (fun v67 M68 h69 => ?_)
          obtain ⟨rfl, h69⟩ := h69
          rw [h69]
          show ml _ _ _ (78, [(0, .ref m0)], [.int (f2 f 6), .ref m0], M56) _
          refine rp_int rfl hR60 rfl (fun M70 I71 hR72 e73 f74 => ?_)
          show ml _ _ _ (81, [(0, .ref m0)], [], M70) _
          refine ml_st (S' := (82, [(0, .ref m0)], [.ref m0], M70)) rfl rfl rfl ?_
          refine rg_int (S' := (85, [(0, .ref m0)], [.int (f2 f 6)], M70)) rfl hR72 rfl (e73) rfl ?_
          refine ml_st (S' := (87, [(0, .ref m0)], [.int 45, .int (f2 f 6)], M70)) rfl rfl rfl ?_
          refine ml_if2 (S1 := (116, [(0, .ref m0)], [], M70)) (S2 := (90, [(0, .ref m0)], [], M70)) rfl rfl rfl (fun c_87 => ?_) (fun c_87 => ?_)
          · have c_87 : (f2 f 6) < 45 := of_decide_eq_true c_87
            refine ml_blk 3 (S' := (119, [(0, .ref m0)], [.int 4, .int 3, .ref m0], M70)) rfl ?_
            refine ml_call (a := [.ref m0, .int 3, .int 4]) (rest := []) rfl (hR72.okc rfl rfl rfl) rfl rfl (rm_wrong hR72 (by omega)) (fun v75 M76 h77 => ?_)
            obtain ⟨u83, I78, R79, rfl, hR80, hI81, hV82, z84, w85⟩ := h77
            show ml _ _ _ (122, [(0, .ref m0)], [.int u83], M76) _
            exact ml_ret rfl (r_z (z84)) (⟨_, _, _, rfl, hR80, ((((((((eqI.rf.put f15 (by decide)).tr hI23 (by decide)).put f36 (by decide)).tr hI44 (by decide)).put f53 (by decide)).tr hI61 (by decide)).put f74 (by decide)).tr hI81 (by decide)), ((((eqR.rf.tr hV24 (by decide)).tr hV45 (by decide)).tr hV62 (by decide)).tr hV82 (by decide)), z84, Or.inl w85⟩)
          · have c_87 : ¬ ((f2 f 6) < 45) := of_decide_eq_false c_87
            refine ml_st (S' := (91, [(0, .ref m0)], [.ref m0], M70)) rfl rfl rfl ?_
            refine rg_int (S' := (94, [(0, .ref m0)], [.int (f2 f 6)], M70)) rfl hR72 rfl (e73) rfl ?_
            refine ml_st (S' := (96, [(0, .ref m0)], [.int 61, .int (f2 f 6)], M70)) rfl rfl rfl ?_
            refine ml_if2 (S1 := (116, [(0, .ref m0)], [], M70)) (S2 := (99, [(0, .ref m0)], [], M70)) rfl rfl rfl (fun c_96 => ?_) (fun c_96 => ?_)
            · have c_96 : 61 < (f2 f 6) := of_decide_eq_true c_96
              refine ml_blk 3 (S' := (119, [(0, .ref m0)], [.int 4, .int 3, .ref m0], M70)) rfl ?_
              refine ml_call (a := [.ref m0, .int 3, .int 4]) (rest := []) rfl (hR72.okc rfl rfl rfl) rfl rfl (rm_wrong hR72 (by omega)) (fun v86 M87 h88 => ?_)
              obtain ⟨u94, I89, R90, rfl, hR91, hI92, hV93, z95, w96⟩ := h88
              show ml _ _ _ (122, [(0, .ref m0)], [.int u94], M87) _
              exact ml_ret rfl (r_z (z95)) (⟨_, _, _, rfl, hR91, ((((((((eqI.rf.put f15 (by decide)).tr hI23 (by decide)).put f36 (by decide)).tr hI44 (by decide)).put f53 (by decide)).tr hI61 (by decide)).put f74 (by decide)).tr hI92 (by decide)), ((((eqR.rf.tr hV24 (by decide)).tr hV45 (by decide)).tr hV62 (by decide)).tr hV93 (by decide)), z95, Or.inl w96⟩)
            · have c_96 : ¬ (61 < (f2 f 6)) := of_decide_eq_false c_96
              refine ml_st (S' := (100, [(0, .ref m0)], [.ref m0], M70)) rfl rfl rfl ?_
              refine rg_int (S' := (103, [(0, .ref m0)], [.int (f2 f 6)], M70)) rfl hR72 rfl (e73) rfl ?_
              refine ml_st (S' := (105, [(0, .ref m0)], [.int 56, .int (f2 f 6)], M70)) rfl rfl rfl ?_
              have J_123 : ml (mT g) d (mb_237 g).2 (123, [(0, .ref m0)], [], M70) (fun v M' => ∃ (x : Int32) (I' : rI) (R' : rR), v = some (.int x) ∧ RS g m0 q z I' R' M' ∧ eqI [3, 8, 20, 47, 48, 50, 51, 52, 53, 54, 55, 56, 57] I I' ∧ eqR [1, 2, 4, 5, 6, 7, 21, 22] R R' ∧ (x = 0 ∨ x = 1) ∧ (x = 0 ∨ FR f n I' R')) := by
                refine ml_blk 2 (S' := (126, [(0, .ref m0)], [.int 8, .ref m0], M70)) rfl ?_
                refine rp_int rfl hR72 rfl (fun M97 I98 hR99 e100 f101 => ?_)
                show ml _ _ _ (129, [(0, .ref m0)], [], M97) _
                refine ml_blk 2 (S' := (133, [(0, .ref m0)], [.long 2, .ref m0], M97)) rfl ?_
                have hF102 : FK n f I98 R59 := ((hF66.mono (pIx f74 (by decide)) (fun _ _ => rfl)).mono (pIx f101 (by decide)) (fun _ _ => rfl))
                refine ml_call (a := [.ref m0, .long 2]) (rest := []) rfl (hR99.okc rfl rfl rfl) rfl rfl (rm_item hR99 (e100) hF102 (by omega) (by omega) (by decide) (by decide) (by omega)) (fun v103 M104 h105 => ?_)
                obtain ⟨u111, I106, R107, rfl, hR108, hI109, hV110, z112, w113⟩ := h105
                show ml _ _ _ (136, [(0, .ref m0)], [.int u111], M104) _
                refine ml_if (S1 := (141, [(0, .ref m0)], [], M104)) (S2 := (139, [(0, .ref m0)], [], M104)) rfl rfl rfl (fun c_136 => ?_) (fun c_136 => ?_)
                · have c_136 : ¬ u111 = 0 := of_decide_eq_true c_136
                  have h10n := w113.resolve_left c_136
                  refine ml_blk 3 (S' := (145, [(0, .ref m0)], [.int 8, .ref m0, .ref m0], M104)) rfl ?_
                  have hF114 : FK n f I106 R107 := (hF102.mono (cIx hI109 (by decide)) (cRx hV110 (by decide)))
                  refine ml_call (a := [.ref m0, .int 8]) (rest := [.ref m0]) rfl (hR108.okc rfl rfl rfl) rfl rfl (rm_u2 hR108 hF114 (by omega) (by omega) (by omega)) (fun v115 M116 h117 => ?_)
                  obtain ⟨rfl, h117⟩ := h117
                  rw [h117]
                  show ml _ _ _ (148, [(0, .ref m0)], [.int (f2 f 8), .ref m0], M104) _
                  refine rp_int rfl hR108 rfl (fun M118 I119 hR120 e121 f122 => ?_)
                  show ml _ _ _ (151, [(0, .ref m0)], [], M118) _
                  refine ml_st (S' := (152, [(0, .ref m0)], [.ref m0], M118)) rfl rfl rfl ?_
                  refine rg_int (S' := (155, [(0, .ref m0)], [.int (f2 f 8)], M118)) rfl hR120 rfl (e121) rfl ?_
                  refine ml_if (S1 := (166, [(0, .ref m0)], [], M118)) (S2 := (158, [(0, .ref m0)], [], M118)) rfl rfl rfl (fun c_155 => ?_) (fun c_155 => ?_)
                  · have c_155 : ¬ (f2 f 8) = 0 := of_decide_eq_true c_155
                    refine ml_blk 2 (S' := (169, [(0, .ref m0)], [.int 10, .ref m0], M118)) rfl ?_
                    refine rp_int rfl hR120 rfl (fun M123 I124 hR125 e126 f127 => ?_)
                    show ml _ _ _ (172, [(0, .ref m0)], [], M123) _
                    refine ml_st (S' := (173, [(0, .ref m0)], [.ref m0], M123)) rfl rfl rfl ?_
                    have hF128 : FK n f I124 R107 := ((hF114.mono (pIx f122 (by decide)) (fun _ _ => rfl)).mono (pIx f127 (by decide)) (fun _ _ => rfl))
                    have hZ129 : SYM S cN I124 R107 := (((((((((((hZ.mono (pIx f15 (by decide)) (fun _ _ => rfl)).mono (cIx hI23 (by decide)) (cRx hV24 (by decide))).mono (pIx f36 (by decide)) (fun _ _ => rfl)).mono (cIx hI44 (by decide)) (cRx hV45 (by decide))).mono (pIx f53 (by decide)) (fun _ _ => rfl)).mono (cIx hI61 (by decide)) (cRx hV62 (by decide))).mono (pIx f74 (by decide)) (fun _ _ => rfl)).mono (pIx f101 (by decide)) (fun _ _ => rfl)).mono (cIx hI109 (by decide)) (cRx hV110 (by decide))).mono (pIx f122 (by decide)) (fun _ _ => rfl)).mono (pIx f127 (by decide)) (fun _ _ => rfl))
                    refine ml_call (a := [.ref m0]) (rest := []) rfl (hR125.okc rfl rfl rfl) rfl rfl (rm_readPool hR125 ((f127 20 (by decide)).trans ((f122 20 (by decide)).trans ((hI109 20 (by decide)).trans ((f101 20 (by decide)).trans ((f74 20 (by decide)).trans ((hI61 20 (by decide)).trans ((f53 20 (by decide)).trans ((hI44 20 (by decide)).trans ((f36 20 (by decide)).trans ((hI23 20 (by decide)).trans ((f15 20 (by decide)).trans (hk20)))))))))))) (e126) ((f127 52 (by decide)).trans (e121)) ((f127 53 (by decide)).trans ((f122 53 (by decide)).trans ((hI109 53 (by decide)).trans ((f101 53 (by decide)).trans (e73))))) hF128 hZ129 (by omega) (by omega) (by have := f2_pos (f := f) (x := 8); have h9 : (f2 f 8).toInt ≠ 0 := (fun e => c_155 (Int32.toInt_inj.mp e)); omega) (f2_le) (hS3) (hC3) (by omega)) (fun v130 M131 h132 => ?_)
                    obtain ⟨u138, I133, R134, rfl, hR135, hI136, hV137, z139, w140⟩ := h132
                    show ml _ _ _ (176, [(0, .ref m0)], [.int u138], M131) _
                    refine ml_if (S1 := (181, [(0, .ref m0)], [], M131)) (S2 := (179, [(0, .ref m0)], [], M131)) rfl rfl rfl (fun c_176 => ?_) (fun c_176 => ?_)
                    · have c_176 : ¬ u138 = 0 := of_decide_eq_true c_176
                      obtain ⟨S9, c9, ph, hz9, hph, hph0, hph1, h51, hpen⟩ := w140.resolve_left c_176
                      refine ml_blk 2 (S' := (183, [(0, .ref m0)], [.ref m0, .ref m0], M131)) rfl ?_
                      refine rg_int (S' := (186, [(0, .ref m0)], [.int ph, .ref m0], M131)) rfl hR135 rfl (hph) rfl ?_
                      refine rp_int rfl hR135 rfl (fun M141 I142 hR143 e144 f145 => ?_)
                      show ml _ _ _ (189, [(0, .ref m0)], [], M141) _
                      refine ml_st (S' := (190, [(0, .ref m0)], [.int 0], M141)) rfl rfl rfl ?_
                      refine ml_st (S' := (191, [(0, .ref m0), (1, .int 0)], [], M141)) rfl rfl rfl ?_
                      have L_191 : ∀ (n_191 : Nat) (i191_1 : Int32) (pq : Int32) (M_191 : mi_H) (I_191 : rI) (R_191 : rR), (2147483648 - i191_1.toInt).toNat ≤ n_191 → RS g m0 q z I_191 R_191 M_191 → eqI [47, 48, 50] I142 I_191 → eqR [] R134 R_191 → (I_191 50 = some pq ∧ 0 ≤ i191_1.toInt ∧ i191_1.toInt ≤ 4 ∧ pq.toInt = ph.toInt + 2 * i191_1.toInt ∧ pq.toInt ≤ n) → ml (mT g) d (mb_237 g).2 (191, [(0, .ref m0), (1, .int i191_1)], [], M_191) (fun v M' => ∃ (x : Int32) (I' : rI) (R' : rR), v = some (.int x) ∧ RS g m0 q z I' R' M' ∧ eqI [3, 8, 20, 47, 48, 50, 51, 52, 53, 54, 55, 56, 57] I I' ∧ eqR [1, 2, 4, 5, 6, 7, 21, 22] R R' ∧ (x = 0 ∨ x = 1) ∧ (x = 0 ∨ FR f n I' R')) := by
                        intro n_191
                        induction n_191 with
                        | zero => intro i191_1 pq M_191 I_191 R_191 hn; exact (loop_zero hn).elim
                        | succ n_191 ih_191 =>
                          intro i191_1 pq M_191 I_191 R_191 hn_191 hR_191 hI_191 hV_191 hi_191
                          obtain ⟨hq50, hq0, hq1, hqe, hqn⟩ := hi_191
                          refine ml_blk 2 (S' := (193, [(0, .ref m0), (1, .int i191_1)], [.int 4, .int i191_1], M_191)) rfl ?_
                          refine ml_if2 (S1 := (224, [(0, .ref m0), (1, .int i191_1)], [], M_191)) (S2 := (196, [(0, .ref m0), (1, .int i191_1)], [], M_191)) rfl rfl rfl (fun c_193 => ?_) (fun c_193 => ?_)
                          · have c_193 : 4 ≤ i191_1 := of_decide_eq_true c_193
                            have hq8 : pq.toInt = ph.toInt + 8 := by have q := i_le c_193; omega
                            have hph6 : (ph + 6).toInt = ph.toInt + 6 := by rw [i_add (by omega) (by omega), i6]
                            have hqm : pq - 2 = ph + 6 := by apply Int32.toInt_inj.mp; rw [i_sub (by have : (2 : Int32).toInt = 2 := rfl; omega) (by have : (2 : Int32).toInt = 2 := rfl; omega), i_add (by omega) (by omega)]; have : (2 : Int32).toInt = 2 := rfl; omega
                            refine ml_blk 2 (S' := (226, [(0, .ref m0), (1, .int i191_1)], [.ref m0, .ref m0], M_191)) rfl ?_
                            refine rg_int (S' := (229, [(0, .ref m0), (1, .int i191_1)], [.int pq, .ref m0], M_191)) rfl hR_191 rfl (hq50) rfl ?_
                            refine ml_blk 2 (S' := (231, [(0, .ref m0), (1, .int i191_1)], [.int (pq - 2), .ref m0], M_191)) rfl ?_
                            rw [hqm]
                            have hF146 : FK n f I_191 R_191 := (((hF128.mono (cIx hI136 (by decide)) (cRx hV137 (by decide))).mono (pIx f145 (by decide)) (fun _ _ => rfl)).mono (cIx hI_191 (by decide)) (cRx hV_191 (by decide)))
                            refine ml_call (a := [.ref m0, .int (ph + 6)]) (rest := []) rfl (hR_191.okc rfl rfl rfl) rfl rfl (rm_u2 hR_191 hF146 (by omega) (by omega) (by omega)) (fun v147 M148 h149 => ?_)
                            obtain ⟨rfl, h149⟩ := h149
                            rw [h149]
                            show ml _ _ _ (234, [(0, .ref m0), (1, .int i191_1)], [.int (f2 f (ph + 6))], M_191) _
                            refine ml_st (S' := (235, [(1, .int (f2 f (ph + 6))), (0, .ref m0)], [], M_191)) rfl rfl rfl ?_
                            refine ml_st (S' := (236, [(1, .int (f2 f (ph + 6))), (0, .ref m0)], [.int 0], M_191)) rfl rfl rfl ?_
                            refine ml_st (S' := (237, [(0, .ref m0), (1, .int (f2 f (ph + 6))), (2, .int 0)], [], M_191)) rfl rfl rfl ?_
                            have L_237 : ∀ (n_237 : Nat) (i237_2 : Int32) (pr : Int32) (M_237 : mi_H) (I_237 : rI) (R_237 : rR), (2147483648 - i237_2.toInt).toNat ≤ n_237 → RS g m0 q z I_237 R_237 M_237 → eqI [47, 48, 50] I_191 I_237 → eqR [] R_191 R_237 → (I_237 50 = some pr ∧ 0 ≤ i237_2.toInt ∧ i237_2.toInt ≤ (f2 f (ph + 6)).toInt ∧ pr.toInt = ph.toInt + 8 + 2 * i237_2.toInt ∧ pr.toInt ≤ n) → ml (mT g) d (mb_237 g).2 (237, [(0, .ref m0), (1, .int (f2 f (ph + 6))), (2, .int i237_2)], [], M_237) (fun v M' => ∃ (x : Int32) (I' : rI) (R' : rR), v = some (.int x) ∧ RS g m0 q z I' R' M' ∧ eqI [3, 8, 20, 47, 48, 50, 51, 52, 53, 54, 55, 56, 57] I I' ∧ eqR [1, 2, 4, 5, 6, 7, 21, 22] R R' ∧ (x = 0 ∨ x = 1) ∧ (x = 0 ∨ FR f n I' R')) := by
                              intro n_237
                              induction n_237 with
                              | zero => intro i237_2 pr M_237 I_237 R_237 hn; exact (loop_zero hn).elim
                              | succ n_237 ih_237 =>
                                intro i237_2 pr M_237 I_237 R_237 hn_237 hR_237 hI_237 hV_237 hi_237
                                obtain ⟨hr50, hr0, hr1, hre, hrn⟩ := hi_237
                                refine ml_blk 2 (S' := (239, [(0, .ref m0), (1, .int (f2 f (ph + 6))), (2, .int i237_2)], [.int (f2 f (ph + 6)), .int i237_2], M_237)) rfl ?_
                                refine ml_if2 (S1 := (270, [(0, .ref m0), (1, .int (f2 f (ph + 6))), (2, .int i237_2)], [], M_237)) (S2 := (242, [(0, .ref m0), (1, .int (f2 f (ph + 6))), (2, .int i237_2)], [], M_237)) rfl rfl rfl (fun c_239 => ?_) (fun c_239 => ?_)
                                · have c_239 : (f2 f (ph + 6)) ≤ i237_2 := of_decide_eq_true c_239
                                  have hr6 := i_le c_239
                                  refine ml_blk 2 (S' := (272, [(0, .ref m0), (1, .int (f2 f (ph + 6))), (2, .int i237_2)], [.ref m0, .ref m0], M_237)) rfl ?_
                                  refine rg_int (S' := (275, [(0, .ref m0), (1, .int (f2 f (ph + 6))), (2, .int i237_2)], [.int pr, .ref m0], M_237)) rfl hR_237 rfl (hr50) rfl ?_
                                  refine rp_int rfl hR_237 rfl (fun M150 I151 hR152 e153 f154 => ?_)
                                  show ml _ _ _ (278, [(0, .ref m0), (1, .int (f2 f (ph + 6))), (2, .int i237_2)], [], M150) _
                                  refine ml_st (S' := (279, [(0, .ref m0), (1, .int (f2 f (ph + 6))), (2, .int i237_2)], [.ref m0], M150)) rfl rfl rfl ?_
                                  have hF155 : FK n f I151 R_237 := ((hF146.mono (cIx hI_237 (by decide)) (cRx hV_237 (by decide))).mono (pIx f154 (by decide)) (fun _ _ => rfl))
                                  refine ml_call (a := [.ref m0]) (rest := []) rfl (hR152.okc rfl rfl rfl) rfl rfl (rm_members hR152 ((f154 50 (by decide)).trans (hr50)) hF155 (by omega) (by omega) (by omega)) (fun v156 M157 h158 => ?_)
                                  obtain ⟨u164, I159, R160, rfl, hR161, hI162, hV163, z165, w166⟩ := h158
                                  show ml _ _ _ (282, [(0, .ref m0), (1, .int (f2 f (ph + 6))), (2, .int i237_2)], [.int u164], M157) _
                                  refine ml_if (S1 := (287, [(0, .ref m0), (1, .int (f2 f (ph + 6))), (2, .int i237_2)], [], M157)) (S2 := (285, [(0, .ref m0), (1, .int (f2 f (ph + 6))), (2, .int i237_2)], [], M157)) rfl rfl rfl (fun c_282 => ?_) (fun c_282 => ?_)
                                  · have c_282 : ¬ u164 = 0 := of_decide_eq_true c_282
                                    obtain ⟨p1, hp1, hmb1⟩ := w166.resolve_left c_282
                                    have hg1 := mb_ge hn hmb1
                                    refine ml_blk 2 (S' := (289, [(0, .ref m0), (1, .int (f2 f (ph + 6))), (2, .int i237_2)], [.ref m0, .ref m0], M157)) rfl ?_
                                    refine rg_int (S' := (292, [(0, .ref m0), (1, .int (f2 f (ph + 6))), (2, .int i237_2)], [.int p1, .ref m0], M157)) rfl hR161 rfl (hp1) rfl ?_
                                    refine rp_int rfl hR161 rfl (fun M167 I168 hR169 e170 f171 => ?_)
                                    show ml _ _ _ (295, [(0, .ref m0), (1, .int (f2 f (ph + 6))), (2, .int i237_2)], [], M167) _
                                    refine ml_st (S' := (296, [(0, .ref m0), (1, .int (f2 f (ph + 6))), (2, .int i237_2)], [.ref m0], M167)) rfl rfl rfl ?_
                                    have hF172 : FK n f I168 R160 := ((hF155.mono (cIx hI162 (by decide)) (cRx hV163 (by decide))).mono (pIx f171 (by decide)) (fun _ _ => rfl))
                                    refine ml_call (a := [.ref m0]) (rest := []) rfl (hR169.okc rfl rfl rfl) rfl rfl (rm_members hR169 ((f171 50 (by decide)).trans (hp1)) hF172 (by omega) (by omega) (by omega)) (fun v173 M174 h175 => ?_)
                                    obtain ⟨u181, I176, R177, rfl, hR178, hI179, hV180, z182, w183⟩ := h175
                                    show ml _ _ _ (299, [(0, .ref m0), (1, .int (f2 f (ph + 6))), (2, .int i237_2)], [.int u181], M174) _
                                    refine ml_if (S1 := (304, [(0, .ref m0), (1, .int (f2 f (ph + 6))), (2, .int i237_2)], [], M174)) (S2 := (302, [(0, .ref m0), (1, .int (f2 f (ph + 6))), (2, .int i237_2)], [], M174)) rfl rfl rfl (fun c_299 => ?_) (fun c_299 => ?_)
                                    · have c_299 : ¬ u181 = 0 := of_decide_eq_true c_299
                                      obtain ⟨p2, hp2, hmb2⟩ := w183.resolve_left c_299
                                      have hg2 := mb_ge hn hmb2
                                      refine ml_blk 2 (S' := (306, [(0, .ref m0), (1, .int (f2 f (ph + 6))), (2, .int i237_2)], [.ref m0, .ref m0], M174)) rfl ?_
                                      refine rg_int (S' := (309, [(0, .ref m0), (1, .int (f2 f (ph + 6))), (2, .int i237_2)], [.int p2, .ref m0], M174)) rfl hR178 rfl (hp2) rfl ?_
                                      refine rp_int rfl hR178 rfl (fun M184 I185 hR186 e187 f188 => ?_)
                                      show ml _ _ _ (312, [(0, .ref m0), (1, .int (f2 f (ph + 6))), (2, .int i237_2)], [], M184) _
                                      refine ml_st (S' := (313, [(0, .ref m0), (1, .int (f2 f (ph + 6))), (2, .int i237_2)], [.ref m0], M184)) rfl rfl rfl ?_
                                      have hF189 : FK n f I185 R177 := ((hF172.mono (cIx hI179 (by decide)) (cRx hV180 (by decide))).mono (pIx f188 (by decide)) (fun _ _ => rfl))
                                      refine ml_call (a := [.ref m0]) (rest := []) rfl (hR186.okc rfl rfl rfl) rfl rfl (rm_attributes hR186 ((f188 50 (by decide)).trans (hp2)) hF189 (by omega) (by omega) (by omega)) (fun v190 M191 h192 => ?_)
                                      obtain ⟨u198, I193, R194, rfl, hR195, hI196, hV197, z199, w200⟩ := h192
                                      show ml _ _ _ (316, [(0, .ref m0), (1, .int (f2 f (ph + 6))), (2, .int i237_2)], [.int u198], M191) _
                                      refine ml_if (S1 := (321, [(0, .ref m0), (1, .int (f2 f (ph + 6))), (2, .int i237_2)], [], M191)) (S2 := (319, [(0, .ref m0), (1, .int (f2 f (ph + 6))), (2, .int i237_2)], [], M191)) rfl rfl rfl (fun c_316 => ?_) (fun c_316 => ?_)
                                      · have c_316 : ¬ u198 = 0 := of_decide_eq_true c_316
                                        obtain ⟨p3, hp3, hat3⟩ := w200.resolve_left c_316
                                        refine ml_st (S' := (322, [(0, .ref m0), (1, .int (f2 f (ph + 6))), (2, .int i237_2)], [.ref m0], M191)) rfl rfl rfl ?_
                                        refine rg_int (S' := (325, [(0, .ref m0), (1, .int (f2 f (ph + 6))), (2, .int i237_2)], [.int p3], M191)) rfl hR195 rfl (hp3) rfl ?_
                                        refine ml_st (S' := (326, [(0, .ref m0), (1, .int (f2 f (ph + 6))), (2, .int i237_2)], [.ref m0, .int p3], M191)) rfl rfl rfl ?_
                                        refine rg_int (S' := (329, [(0, .ref m0), (1, .int (f2 f (ph + 6))), (2, .int i237_2)], [.int (nI n), .int p3], M191)) rfl hR195 rfl ((hI196 16 (by decide)).trans ((f188 16 (by decide)).trans ((hI179 16 (by decide)).trans ((f171 16 (by decide)).trans ((hI162 16 (by decide)).trans ((f154 16 (by decide)).trans ((hI_237 16 (by decide)).trans ((hI_191 16 (by decide)).trans ((f145 16 (by decide)).trans ((hI136 16 (by decide)).trans ((f127 16 (by decide)).trans ((f122 16 (by decide)).trans ((hI109 16 (by decide)).trans ((f101 16 (by decide)).trans ((f74 16 (by decide)).trans ((hI61 16 (by decide)).trans ((f53 16 (by decide)).trans ((hI44 16 (by decide)).trans ((f36 16 (by decide)).trans ((hI23 16 (by decide)).trans ((f15 16 (by decide)).trans (hF.2.2.1)))))))))))))))))))))) rfl ?_
                                        refine ml_if2 (S1 := (345, [], [], M191)) (S2 := (332, [(0, .ref m0), (1, .int (f2 f (ph + 6))), (2, .int i237_2)], [], M191)) rfl rfl rfl (fun c_329 => ?_) (fun c_329 => ?_)
                                        · have c_329 : p3 = (nI n) := of_decide_eq_true c_329
                                          refine ml_st (S' := (346, [], [.int 1], M191)) rfl rfl rfl ?_
                                          refine ml_st (S' := (350, [], [.int 1], M191)) rfl rfl rfl ?_
                                          have hZ201 : SYM S9 c9 I193 R194 := (((((((((hz9.mono (pIx f145 (by decide)) (fun _ _ => rfl)).mono (cIx hI_191 (by decide)) (cRx hV_191 (by decide))).mono (cIx hI_237 (by decide)) (cRx hV_237 (by decide))).mono (pIx f154 (by decide)) (fun _ _ => rfl)).mono (cIx hI162 (by decide)) (cRx hV163 (by decide))).mono (pIx f171 (by decide)) (fun _ _ => rfl)).mono (cIx hI179 (by decide)) (cRx hV180 (by decide))).mono (pIx f188 (by decide)) (fun _ _ => rfl)).mono (cIx hI196 (by decide)) (cRx hV197 (by decide)))
                                          exact ml_ret rfl (r_z (Or.inr rfl)) (⟨_, _, _, rfl, hR195, (((((((((((((((((((((eqI.rf.put f15 (by decide)).tr hI23 (by decide)).put f36 (by decide)).tr hI44 (by decide)).put f53 (by decide)).tr hI61 (by decide)).put f74 (by decide)).put f101 (by decide)).tr hI109 (by decide)).put f122 (by decide)).put f127 (by decide)).tr hI136 (by decide)).put f145 (by decide)).tr hI_191 (by decide)).tr hI_237 (by decide)).put f154 (by decide)).tr hI162 (by decide)).put f171 (by decide)).tr hI179 (by decide)).put f188 (by decide)).tr hI196 (by decide)), ((((((((((eqR.rf.tr hV24 (by decide)).tr hV45 (by decide)).tr hV62 (by decide)).tr hV110 (by decide)).tr hV137 (by decide)).tr hV_191 (by decide)).tr hV_237 (by decide)).tr hV163 (by decide)).tr hV180 (by decide)).tr hV197 (by decide)), Or.inr rfl, Or.inr ⟨S9, c9, (f2 f 8), (f2 f 6), ph, pr, p1, p2, hZ201, hpen.mono ((hV197 21 (by decide)).trans ((hV180 21 (by decide)).trans ((hV163 21 (by decide)).trans ((hV_237 21 (by decide)).trans ((hV_191 21 (by decide))))))) (fun j _ => congrFun ((hV197 22 (by decide)).trans ((hV180 22 (by decide)).trans ((hV163 22 (by decide)).trans ((hV_237 22 (by decide)).trans ((hV_191 22 (by decide))))))) j) (Nat.le_refl _), ⟨⟨by have := f2_pos (f := f) (x := 8); have h9 : (f2 f 8).toInt ≠ 0 := (fun e => c_155 (Int32.toInt_inj.mp e)); omega, f2_le⟩, ⟨by omega, by omega, hrn⟩, hmb1, hmb2, _, hat3⟩, (hI196 51 (by decide)).trans ((f188 51 (by decide)).trans ((hI179 51 (by decide)).trans ((f171 51 (by decide)).trans ((hI162 51 (by decide)).trans ((f154 51 (by decide)).trans ((hI_237 51 (by decide)).trans ((hI_191 51 (by decide)).trans ((f145 51 (by decide)).trans (h51))))))))), (hI196 52 (by decide)).trans ((f188 52 (by decide)).trans ((hI179 52 (by decide)).trans ((f171 52 (by decide)).trans ((hI162 52 (by decide)).trans ((f154 52 (by decide)).trans ((hI_237 52 (by decide)).trans ((hI_191 52 (by decide)).trans ((f145 52 (by decide)).trans ((hI136 52 (by decide)).trans ((f127 52 (by decide)).trans (e121))))))))))), (hI196 53 (by decide)).trans ((f188 53 (by decide)).trans ((hI179 53 (by decide)).trans ((f171 53 (by decide)).trans ((hI162 53 (by decide)).trans ((f154 53 (by decide)).trans ((hI_237 53 (by decide)).trans ((hI_191 53 (by decide)).trans ((f145 53 (by decide)).trans ((hI136 53 (by decide)).trans ((f127 53 (by decide)).trans ((f122 53 (by decide)).trans ((hI109 53 (by decide)).trans ((f101 53 (by decide)).trans (e73)))))))))))))), (hI196 54 (by decide)).trans ((f188 54 (by decide)).trans ((hI179 54 (by decide)).trans ((f171 54 (by decide)).trans ((hI162 54 (by decide)).trans ((f154 54 (by decide)).trans ((hI_237 54 (by decide)).trans ((hI_191 54 (by decide)).trans (e144)))))))), (hI196 55 (by decide)).trans ((f188 55 (by decide)).trans ((hI179 55 (by decide)).trans ((f171 55 (by decide)).trans ((hI162 55 (by decide)).trans (e153))))), (hI196 56 (by decide)).trans ((f188 56 (by decide)).trans ((hI179 56 (by decide)).trans (e170))), (hI196 57 (by decide)).trans (e187)⟩⟩)
                                        · have c_329 : ¬ (p3 = (nI n)) := of_decide_eq_false c_329
                                          refine ml_blk 3 (S' := (336, [(0, .ref m0), (1, .int (f2 f (ph + 6))), (2, .int i237_2)], [.ref m0, .int 8, .ref m0], M191)) rfl ?_
                                          refine rg_int (S' := (339, [(0, .ref m0), (1, .int (f2 f (ph + 6))), (2, .int i237_2)], [.int p3, .int 8, .ref m0], M191)) rfl hR195 rfl (hp3) rfl ?_
                                          refine ml_call (a := [.ref m0, .int 8, .int p3]) (rest := []) rfl (hR195.okc rfl rfl rfl) rfl rfl (rm_wrong hR195 (by omega)) (fun v202 M203 h204 => ?_)
                                          obtain ⟨u210, I205, R206, rfl, hR207, hI208, hV209, z211, w212⟩ := h204
                                          show ml _ _ _ (342, [(0, .ref m0), (1, .int (f2 f (ph + 6))), (2, .int i237_2)], [.int u210], M203) _
                                          refine ml_if (S1 := (349, [(0, .ref m0), (1, .int (f2 f (ph + 6))), (2, .int i237_2)], [], M203)) (S2 := (345, [], [], M203)) rfl rfl rfl (fun c_342 => ?_) (fun c_342 => ?_)
                                          · have c_342 : u210 = 0 := of_decide_eq_true c_342
                                            refine ml_st (S' := (350, [], [.int 0], M203)) rfl rfl rfl ?_
                                            exact ml_ret rfl (r_z (Or.inl rfl)) (⟨_, _, _, rfl, hR207, ((((((((((((((((((((((eqI.rf.put f15 (by decide)).tr hI23 (by decide)).put f36 (by decide)).tr hI44 (by decide)).put f53 (by decide)).tr hI61 (by decide)).put f74 (by decide)).put f101 (by decide)).tr hI109 (by decide)).put f122 (by decide)).put f127 (by decide)).tr hI136 (by decide)).put f145 (by decide)).tr hI_191 (by decide)).tr hI_237 (by decide)).put f154 (by decide)).tr hI162 (by decide)).put f171 (by decide)).tr hI179 (by decide)).put f188 (by decide)).tr hI196 (by decide)).tr hI208 (by decide)), (((((((((((eqR.rf.tr hV24 (by decide)).tr hV45 (by decide)).tr hV62 (by decide)).tr hV110 (by decide)).tr hV137 (by decide)).tr hV_191 (by decide)).tr hV_237 (by decide)).tr hV163 (by decide)).tr hV180 (by decide)).tr hV197 (by decide)).tr hV209 (by decide)), Or.inl rfl, Or.inl rfl⟩)
                                          · have c_342 : ¬ (u210 = 0) := of_decide_eq_false c_342
                                            refine ml_st (S' := (346, [], [.int 1], M203)) rfl rfl rfl ?_
                                            refine ml_st (S' := (350, [], [.int 1], M203)) rfl rfl rfl ?_
                                            exact ml_ret rfl (r_z (Or.inr rfl)) (⟨_, _, _, rfl, hR207, ((((((((((((((((((((((eqI.rf.put f15 (by decide)).tr hI23 (by decide)).put f36 (by decide)).tr hI44 (by decide)).put f53 (by decide)).tr hI61 (by decide)).put f74 (by decide)).put f101 (by decide)).tr hI109 (by decide)).put f122 (by decide)).put f127 (by decide)).tr hI136 (by decide)).put f145 (by decide)).tr hI_191 (by decide)).tr hI_237 (by decide)).put f154 (by decide)).tr hI162 (by decide)).put f171 (by decide)).tr hI179 (by decide)).put f188 (by decide)).tr hI196 (by decide)).tr hI208 (by decide)), (((((((((((eqR.rf.tr hV24 (by decide)).tr hV45 (by decide)).tr hV62 (by decide)).tr hV110 (by decide)).tr hV137 (by decide)).tr hV_191 (by decide)).tr hV_237 (by decide)).tr hV163 (by decide)).tr hV180 (by decide)).tr hV197 (by decide)).tr hV209 (by decide)), Or.inr rfl, absurd w212 c_342⟩)
                                      · have c_316 : ¬ (¬ u198 = 0) := of_decide_eq_false c_316
                                        refine ml_st (S' := (320, [(0, .ref m0), (1, .int (f2 f (ph + 6))), (2, .int i237_2)], [.int 0], M191)) rfl rfl rfl ?_
                                        exact ml_ret rfl (r_z (Or.inl rfl)) (⟨_, _, _, rfl, hR195, (((((((((((((((((((((eqI.rf.put f15 (by decide)).tr hI23 (by decide)).put f36 (by decide)).tr hI44 (by decide)).put f53 (by decide)).tr hI61 (by decide)).put f74 (by decide)).put f101 (by decide)).tr hI109 (by decide)).put f122 (by decide)).put f127 (by decide)).tr hI136 (by decide)).put f145 (by decide)).tr hI_191 (by decide)).tr hI_237 (by decide)).put f154 (by decide)).tr hI162 (by decide)).put f171 (by decide)).tr hI179 (by decide)).put f188 (by decide)).tr hI196 (by decide)), ((((((((((eqR.rf.tr hV24 (by decide)).tr hV45 (by decide)).tr hV62 (by decide)).tr hV110 (by decide)).tr hV137 (by decide)).tr hV_191 (by decide)).tr hV_237 (by decide)).tr hV163 (by decide)).tr hV180 (by decide)).tr hV197 (by decide)), Or.inl rfl, Or.inl rfl⟩)
                                    · have c_299 : ¬ (¬ u181 = 0) := of_decide_eq_false c_299
                                      refine ml_st (S' := (303, [(0, .ref m0), (1, .int (f2 f (ph + 6))), (2, .int i237_2)], [.int 0], M174)) rfl rfl rfl ?_
                                      exact ml_ret rfl (r_z (Or.inl rfl)) (⟨_, _, _, rfl, hR178, (((((((((((((((((((eqI.rf.put f15 (by decide)).tr hI23 (by decide)).put f36 (by decide)).tr hI44 (by decide)).put f53 (by decide)).tr hI61 (by decide)).put f74 (by decide)).put f101 (by decide)).tr hI109 (by decide)).put f122 (by decide)).put f127 (by decide)).tr hI136 (by decide)).put f145 (by decide)).tr hI_191 (by decide)).tr hI_237 (by decide)).put f154 (by decide)).tr hI162 (by decide)).put f171 (by decide)).tr hI179 (by decide)), (((((((((eqR.rf.tr hV24 (by decide)).tr hV45 (by decide)).tr hV62 (by decide)).tr hV110 (by decide)).tr hV137 (by decide)).tr hV_191 (by decide)).tr hV_237 (by decide)).tr hV163 (by decide)).tr hV180 (by decide)), Or.inl rfl, Or.inl rfl⟩)
                                  · have c_282 : ¬ (¬ u164 = 0) := of_decide_eq_false c_282
                                    refine ml_st (S' := (286, [(0, .ref m0), (1, .int (f2 f (ph + 6))), (2, .int i237_2)], [.int 0], M157)) rfl rfl rfl ?_
                                    exact ml_ret rfl (r_z (Or.inl rfl)) (⟨_, _, _, rfl, hR161, (((((((((((((((((eqI.rf.put f15 (by decide)).tr hI23 (by decide)).put f36 (by decide)).tr hI44 (by decide)).put f53 (by decide)).tr hI61 (by decide)).put f74 (by decide)).put f101 (by decide)).tr hI109 (by decide)).put f122 (by decide)).put f127 (by decide)).tr hI136 (by decide)).put f145 (by decide)).tr hI_191 (by decide)).tr hI_237 (by decide)).put f154 (by decide)).tr hI162 (by decide)), ((((((((eqR.rf.tr hV24 (by decide)).tr hV45 (by decide)).tr hV62 (by decide)).tr hV110 (by decide)).tr hV137 (by decide)).tr hV_191 (by decide)).tr hV_237 (by decide)).tr hV163 (by decide)), Or.inl rfl, Or.inl rfl⟩)
                                · have c_239 : ¬ ((f2 f (ph + 6)) ≤ i237_2) := of_decide_eq_false c_239
                                  refine ml_blk 2 (S' := (246, [(0, .ref m0), (1, .int (f2 f (ph + 6))), (2, .int i237_2)], [.long 2, .ref m0], M_237)) rfl ?_
                                  have hF213 : FK n f I_237 R_237 := (hF146.mono (cIx hI_237 (by decide)) (cRx hV_237 (by decide)))
                                  refine ml_call (a := [.ref m0, .long 2]) (rest := []) rfl (hR_237.okc rfl rfl rfl) rfl rfl (rm_item hR_237 (hr50) hF213 (by omega) (by omega) (by decide) (by decide) (by omega)) (fun v214 M215 h216 => ?_)
                                  obtain ⟨u222, I217, R218, rfl, hR219, hI220, hV221, z223, w224⟩ := h216
                                  show ml _ _ _ (249, [(0, .ref m0), (1, .int (f2 f (ph + 6))), (2, .int i237_2)], [.int u222], M215) _
                                  refine ml_if (S1 := (254, [(0, .ref m0), (1, .int (f2 f (ph + 6))), (2, .int i237_2)], [], M215)) (S2 := (252, [(0, .ref m0), (1, .int (f2 f (ph + 6))), (2, .int i237_2)], [], M215)) rfl rfl rfl (fun c_249 => ?_) (fun c_249 => ?_)
                                  · have c_249 : ¬ u222 = 0 := of_decide_eq_true c_249
                                    have hb := w224.resolve_left c_249
                                    have hr4 : (pr + 2).toInt = pr.toInt + 2 := i_add (by have : (2 : Int32).toInt = 2 := rfl; omega) (by have : (2 : Int32).toInt = 2 := rfl; omega)
                                    have hr5 := inc_lt (Int32.not_le.mp c_239)
                                    refine ml_blk 2 (S' := (256, [(0, .ref m0), (1, .int (f2 f (ph + 6))), (2, .int i237_2)], [.ref m0, .ref m0], M215)) rfl ?_
                                    refine rg_int (S' := (259, [(0, .ref m0), (1, .int (f2 f (ph + 6))), (2, .int i237_2)], [.int pr, .ref m0], M215)) rfl hR219 rfl ((hI220 50 (by decide)).trans (hr50)) rfl ?_
                                    refine ml_blk 2 (S' := (261, [(0, .ref m0), (1, .int (f2 f (ph + 6))), (2, .int i237_2)], [.int (pr + 2), .ref m0], M215)) rfl ?_
                                    refine rp_int rfl hR219 rfl (fun M225 I226 hR227 e228 f229 => ?_)
                                    show ml _ _ _ (264, [(0, .ref m0), (1, .int (f2 f (ph + 6))), (2, .int i237_2)], [], M225) _
                                    refine ml_st (S' := (267, [(2, .int (i237_2 + 1)), (0, .ref m0), (1, .int (f2 f (ph + 6)))], [], M225)) rfl rfl rfl ?_
                                    refine ml_st (S' := (237, [(0, .ref m0), (1, .int (f2 f (ph + 6))), (2, .int (i237_2 + 1))], [], M225)) rfl rfl rfl ?_
                                    exact ih_237 (i237_2 + 1) (pr + 2) _ _ _ (loop_inc (Int32.not_le.mp c_239) hn_237) hR227 (((eqI.rf.tr hI_237 (by decide)).tr hI220 (by decide)).put f229 (by decide)) ((eqR.rf.tr hV_237 (by decide)).tr hV221 (by decide)) (⟨e228, by rw [hr5]; omega, by rw [hr5]; have := i_nle c_239; omega, by rw [hr5]; omega, by omega⟩)
                                  · have c_249 : ¬ (¬ u222 = 0) := of_decide_eq_false c_249
                                    refine ml_st (S' := (253, [(0, .ref m0), (1, .int (f2 f (ph + 6))), (2, .int i237_2)], [.int 0], M215)) rfl rfl rfl ?_
                                    exact ml_ret rfl (r_z (Or.inl rfl)) (⟨_, _, _, rfl, hR219, ((((((((((((((((eqI.rf.put f15 (by decide)).tr hI23 (by decide)).put f36 (by decide)).tr hI44 (by decide)).put f53 (by decide)).tr hI61 (by decide)).put f74 (by decide)).put f101 (by decide)).tr hI109 (by decide)).put f122 (by decide)).put f127 (by decide)).tr hI136 (by decide)).put f145 (by decide)).tr hI_191 (by decide)).tr hI_237 (by decide)).tr hI220 (by decide)), ((((((((eqR.rf.tr hV24 (by decide)).tr hV45 (by decide)).tr hV62 (by decide)).tr hV110 (by decide)).tr hV137 (by decide)).tr hV_191 (by decide)).tr hV_237 (by decide)).tr hV221 (by decide)), Or.inl rfl, Or.inl rfl⟩)
                            exact L_237 _ 0 pq _ _ _ (Nat.le_refl _) hR_191 eqI.rf eqR.rf (⟨hq50, by decide, by show (0 : Int) ≤ _; exact f2_pos, by show _ = ph.toInt + 8 + 2 * 0; omega, by omega⟩)
                          · have c_193 : ¬ (4 ≤ i191_1) := of_decide_eq_false c_193
                            refine ml_blk 2 (S' := (200, [(0, .ref m0), (1, .int i191_1)], [.long 2, .ref m0], M_191)) rfl ?_
                            have hF230 : FK n f I_191 R_191 := (((hF128.mono (cIx hI136 (by decide)) (cRx hV137 (by decide))).mono (pIx f145 (by decide)) (fun _ _ => rfl)).mono (cIx hI_191 (by decide)) (cRx hV_191 (by decide)))
                            refine ml_call (a := [.ref m0, .long 2]) (rest := []) rfl (hR_191.okc rfl rfl rfl) rfl rfl (rm_item hR_191 (hq50) hF230 (by omega) (by omega) (by decide) (by decide) (by omega)) (fun v231 M232 h233 => ?_)
                            obtain ⟨u239, I234, R235, rfl, hR236, hI237, hV238, z240, w241⟩ := h233
                            show ml _ _ _ (203, [(0, .ref m0), (1, .int i191_1)], [.int u239], M232) _
                            refine ml_if (S1 := (208, [(0, .ref m0), (1, .int i191_1)], [], M232)) (S2 := (206, [(0, .ref m0), (1, .int i191_1)], [], M232)) rfl rfl rfl (fun c_203 => ?_) (fun c_203 => ?_)
                            · have c_203 : ¬ u239 = 0 := of_decide_eq_true c_203
                              have hb := w241.resolve_left c_203
                              have hq4 : (pq + 2).toInt = pq.toInt + 2 := i_add (by have : (2 : Int32).toInt = 2 := rfl; omega) (by have : (2 : Int32).toInt = 2 := rfl; omega)
                              have hq5 := inc_lt (Int32.not_le.mp c_193)
                              refine ml_blk 2 (S' := (210, [(0, .ref m0), (1, .int i191_1)], [.ref m0, .ref m0], M232)) rfl ?_
                              refine rg_int (S' := (213, [(0, .ref m0), (1, .int i191_1)], [.int pq, .ref m0], M232)) rfl hR236 rfl ((hI237 50 (by decide)).trans (hq50)) rfl ?_
                              refine ml_blk 2 (S' := (215, [(0, .ref m0), (1, .int i191_1)], [.int (pq + 2), .ref m0], M232)) rfl ?_
                              refine rp_int rfl hR236 rfl (fun M242 I243 hR244 e245 f246 => ?_)
                              show ml _ _ _ (218, [(0, .ref m0), (1, .int i191_1)], [], M242) _
                              refine ml_st (S' := (221, [(1, .int (i191_1 + 1)), (0, .ref m0)], [], M242)) rfl rfl rfl ?_
                              refine ml_st (S' := (191, [(0, .ref m0), (1, .int (i191_1 + 1))], [], M242)) rfl rfl rfl ?_
                              exact ih_191 (i191_1 + 1) (pq + 2) _ _ _ (loop_inc (Int32.not_le.mp c_193) hn_191) hR244 (((eqI.rf.tr hI_191 (by decide)).tr hI237 (by decide)).put f246 (by decide)) ((eqR.rf.tr hV_191 (by decide)).tr hV238 (by decide)) (⟨e245, by rw [hq5]; omega, by rw [hq5]; have := i_nle c_193; omega, by rw [hq5]; omega, by omega⟩)
                            · have c_203 : ¬ (¬ u239 = 0) := of_decide_eq_false c_203
                              refine ml_st (S' := (207, [(0, .ref m0), (1, .int i191_1)], [.int 0], M232)) rfl rfl rfl ?_
                              exact ml_ret rfl (r_z (Or.inl rfl)) (⟨_, _, _, rfl, hR236, (((((((((((((((eqI.rf.put f15 (by decide)).tr hI23 (by decide)).put f36 (by decide)).tr hI44 (by decide)).put f53 (by decide)).tr hI61 (by decide)).put f74 (by decide)).put f101 (by decide)).tr hI109 (by decide)).put f122 (by decide)).put f127 (by decide)).tr hI136 (by decide)).put f145 (by decide)).tr hI_191 (by decide)).tr hI237 (by decide)), (((((((eqR.rf.tr hV24 (by decide)).tr hV45 (by decide)).tr hV62 (by decide)).tr hV110 (by decide)).tr hV137 (by decide)).tr hV_191 (by decide)).tr hV238 (by decide)), Or.inl rfl, Or.inl rfl⟩)
                      exact L_191 _ 0 ph _ _ _ (Nat.le_refl _) hR143 eqI.rf eqR.rf (⟨(f145 50 (by decide)).trans (hph), by decide, by decide, by show _ = ph.toInt + 2 * 0; omega, by omega⟩)
                    · have c_176 : ¬ (¬ u138 = 0) := of_decide_eq_false c_176
                      refine ml_st (S' := (180, [(0, .ref m0)], [.int 0], M131)) rfl rfl rfl ?_
                      exact ml_ret rfl (r_z (Or.inl rfl)) (⟨_, _, _, rfl, hR135, ((((((((((((eqI.rf.put f15 (by decide)).tr hI23 (by decide)).put f36 (by decide)).tr hI44 (by decide)).put f53 (by decide)).tr hI61 (by decide)).put f74 (by decide)).put f101 (by decide)).tr hI109 (by decide)).put f122 (by decide)).put f127 (by decide)).tr hI136 (by decide)), (((((eqR.rf.tr hV24 (by decide)).tr hV45 (by decide)).tr hV62 (by decide)).tr hV110 (by decide)).tr hV137 (by decide)), Or.inl rfl, Or.inl rfl⟩)
                  · have c_155 : ¬ (¬ (f2 f 8) = 0) := of_decide_eq_false c_155
                    refine ml_blk 3 (S' := (162, [(0, .ref m0)], [.int 8, .int 4, .ref m0], M118)) rfl ?_
                    refine ml_call (a := [.ref m0, .int 4, .int 8]) (rest := []) rfl (hR120.okc rfl rfl rfl) rfl rfl (rm_wrong hR120 (by omega)) (fun v247 M248 h249 => ?_)
                    obtain ⟨u255, I250, R251, rfl, hR252, hI253, hV254, z256, w257⟩ := h249
                    show ml _ _ _ (165, [(0, .ref m0)], [.int u255], M248) _
                    exact ml_ret rfl (r_z (z256)) (⟨_, _, _, rfl, hR252, (((((((((((eqI.rf.put f15 (by decide)).tr hI23 (by decide)).put f36 (by decide)).tr hI44 (by decide)).put f53 (by decide)).tr hI61 (by decide)).put f74 (by decide)).put f101 (by decide)).tr hI109 (by decide)).put f122 (by decide)).tr hI253 (by decide)), (((((eqR.rf.tr hV24 (by decide)).tr hV45 (by decide)).tr hV62 (by decide)).tr hV110 (by decide)).tr hV254 (by decide)), z256, Or.inl w257⟩)
                · have c_136 : ¬ (¬ u111 = 0) := of_decide_eq_false c_136
                  refine ml_st (S' := (140, [(0, .ref m0)], [.int 0], M104)) rfl rfl rfl ?_
                  exact ml_ret rfl (r_z (Or.inl rfl)) (⟨_, _, _, rfl, hR108, (((((((((eqI.rf.put f15 (by decide)).tr hI23 (by decide)).put f36 (by decide)).tr hI44 (by decide)).put f53 (by decide)).tr hI61 (by decide)).put f74 (by decide)).put f101 (by decide)).tr hI109 (by decide)), ((((eqR.rf.tr hV24 (by decide)).tr hV45 (by decide)).tr hV62 (by decide)).tr hV110 (by decide)), Or.inl rfl, Or.inl rfl⟩)
              refine ml_if2 (S1 := (123, [(0, .ref m0)], [], M70)) (S2 := (108, [(0, .ref m0)], [], M70)) rfl rfl rfl (fun c_105 => ?_) (fun c_105 => ?_)
              · have c_105 : (f2 f 6) < 56 := of_decide_eq_true c_105
                exact J_123 
              · have c_105 : ¬ ((f2 f 6) < 56) := of_decide_eq_false c_105
                refine ml_blk 2 (S' := (110, [(0, .ref m0)], [.int 4, .ref m0], M70)) rfl ?_
                have hF258 : FK n f I71 R59 := (hF66.mono (pIx f74 (by decide)) (fun _ _ => rfl))
                refine ml_call (a := [.ref m0, .int 4]) (rest := []) rfl (hR72.okc rfl rfl rfl) rfl rfl (rm_u2 hR72 hF258 (by omega) (by omega) (by omega)) (fun v259 M260 h261 => ?_)
                obtain ⟨rfl, h261⟩ := h261
                rw [h261]
                show ml _ _ _ (113, [(0, .ref m0)], [.int (f2 f 4)], M70) _
                refine ml_if (S1 := (123, [(0, .ref m0)], [], M70)) (S2 := (116, [(0, .ref m0)], [], M70)) rfl rfl rfl (fun c_113 => ?_) (fun c_113 => ?_)
                · have c_113 : (f2 f 4) = 0 := of_decide_eq_true c_113
                  exact J_123 
                · have c_113 : ¬ ((f2 f 4) = 0) := of_decide_eq_false c_113
                  refine ml_blk 3 (S' := (119, [(0, .ref m0)], [.int 4, .int 3, .ref m0], M70)) rfl ?_
                  refine ml_call (a := [.ref m0, .int 3, .int 4]) (rest := []) rfl (hR72.okc rfl rfl rfl) rfl rfl (rm_wrong hR72 (by omega)) (fun v262 M263 h264 => ?_)
                  obtain ⟨u270, I265, R266, rfl, hR267, hI268, hV269, z271, w272⟩ := h264
                  show ml _ _ _ (122, [(0, .ref m0)], [.int u270], M263) _
                  exact ml_ret rfl (r_z (z271)) (⟨_, _, _, rfl, hR267, ((((((((eqI.rf.put f15 (by decide)).tr hI23 (by decide)).put f36 (by decide)).tr hI44 (by decide)).put f53 (by decide)).tr hI61 (by decide)).put f74 (by decide)).tr hI268 (by decide)), ((((eqR.rf.tr hV24 (by decide)).tr hV45 (by decide)).tr hV62 (by decide)).tr hV269 (by decide)), z271, Or.inl w272⟩)
        · have c_66 : ¬ (¬ u63 = 0) := of_decide_eq_false c_66
          refine ml_st (S' := (70, [(0, .ref m0)], [.int 0], M56)) rfl rfl rfl ?_
          exact ml_ret rfl (r_z (Or.inl rfl)) (⟨_, _, _, rfl, hR60, ((((((eqI.rf.put f15 (by decide)).tr hI23 (by decide)).put f36 (by decide)).tr hI44 (by decide)).put f53 (by decide)).tr hI61 (by decide)), (((eqR.rf.tr hV24 (by decide)).tr hV45 (by decide)).tr hV62 (by decide)), Or.inl rfl, Or.inl rfl⟩)
      · have c_48 : ¬ (¬ u46 = 0) := of_decide_eq_false c_48
        refine ml_st (S' := (52, [(0, .ref m0)], [.int 0], M39)) rfl rfl rfl ?_
        exact ml_ret rfl (r_z (Or.inl rfl)) (⟨_, _, _, rfl, hR43, ((((eqI.rf.put f15 (by decide)).tr hI23 (by decide)).put f36 (by decide)).tr hI44 (by decide)), ((eqR.rf.tr hV24 (by decide)).tr hV45 (by decide)), Or.inl rfl, Or.inl rfl⟩)
    · have c_26 : ¬ ((lg_cmp (f4 f 0) 3405691582) = 0) := of_decide_eq_false c_26
      refine ml_blk 3 (S' := (32, [(0, .ref m0)], [.int 0, .int 2, .ref m0], M18)) rfl ?_
      refine ml_call (a := [.ref m0, .int 2, .int 0]) (rest := []) rfl (hR22.okc rfl rfl rfl) rfl rfl (rm_wrong hR22 (by omega)) (fun v273 M274 h275 => ?_)
      obtain ⟨u281, I276, R277, rfl, hR278, hI279, hV280, z282, w283⟩ := h275
      show ml _ _ _ (35, [(0, .ref m0)], [.int u281], M274) _
      exact ml_ret rfl (r_z (z282)) (⟨_, _, _, rfl, hR278, (((eqI.rf.put f15 (by decide)).tr hI23 (by decide)).tr hI279 (by decide)), ((eqR.rf.tr hV24 (by decide)).tr hV280 (by decide)), z282, Or.inl w283⟩)
  · have c_12 : ¬ (¬ u25 = 0) := of_decide_eq_false c_12
    refine ml_st (S' := (16, [(0, .ref m0)], [.int 0], M18)) rfl rfl rfl ?_
    exact ml_ret rfl (r_z (Or.inl rfl)) (⟨_, _, _, rfl, hR22, ((eqI.rf.put f15 (by decide)).tr hI23 (by decide)), (eqR.rf.tr hV24 (by decide)), Or.inl rfl, Or.inl rfl⟩)
